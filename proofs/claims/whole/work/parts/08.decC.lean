theorem d_Condition_init_0 : decode b_Condition_init 0 = .ok (.aload_n 0, 1) := by decide +kernel
theorem d_Condition_init_1 : decode b_Condition_init 1 = .ok (.invokespecial 1, 3) := by decide +kernel
theorem d_Condition_init_4 : decode b_Condition_init 4 = .ok (.aload_n 0, 1) := by decide +kernel
theorem d_Condition_init_5 : decode b_Condition_init 5 = .ok (.iload_n 1, 1) := by decide +kernel
theorem d_Condition_init_6 : decode b_Condition_init 6 = .ok (.putfield 7, 3) := by decide +kernel
theorem d_Condition_init_9 : decode b_Condition_init 9 = .ok (.return_, 1) := by decide +kernel
theorem d_DL_applied_0 : decode b_DL_applied 0 = .ok (.aload_n 0, 1) := by decide +kernel
theorem d_DL_applied_1 : decode b_DL_applied 1 = .ok (.getfield 33, 3) := by decide +kernel
theorem d_DL_applied_4 : decode b_DL_applied 4 = .ok (.iconst (-1), 1) := by decide +kernel
theorem d_DL_applied_5 : decode b_DL_applied 5 = .ok (.if_icmp .eq 10, 3) := by decide +kernel
theorem d_DL_applied_8 : decode b_DL_applied 8 = .ok (.iload_n 1, 1) := by decide +kernel
theorem d_DL_applied_9 : decode b_DL_applied 9 = .ok (.invokestatic 62, 3) := by decide +kernel
theorem d_DL_applied_12 : decode b_DL_applied 12 = .ok (.ifCond .ne 5, 3) := by decide +kernel
theorem d_DL_applied_15 : decode b_DL_applied 15 = .ok (.iconst (-1), 1) := by decide +kernel
theorem d_DL_applied_16 : decode b_DL_applied 16 = .ok (.ireturn, 1) := by decide +kernel
theorem d_DL_applied_17 : decode b_DL_applied 17 = .ok (.aload_n 0, 1) := by decide +kernel
theorem d_DL_applied_18 : decode b_DL_applied 18 = .ok (.getfield 24, 3) := by decide +kernel
theorem d_DL_applied_21 : decode b_DL_applied 21 = .ok (.iload_n 1, 1) := by decide +kernel
theorem d_DL_applied_22 : decode b_DL_applied 22 = .ok (.aaload, 1) := by decide +kernel
theorem d_DL_applied_23 : decode b_DL_applied 23 = .ok (.getfield 111, 3) := by decide +kernel
theorem d_DL_applied_26 : decode b_DL_applied 26 = .ok (.ireturn, 1) := by decide +kernel
theorem d_DL_conclude_0 : decode b_DL_conclude 0 = .ok (.iconst 0, 1) := by decide +kernel
theorem d_DL_conclude_1 : decode b_DL_conclude 1 = .ok (.istore_n 3, 1) := by decide +kernel
theorem d_DL_conclude_2 : decode b_DL_conclude 2 = .ok (.iload_n 3, 1) := by decide +kernel
theorem d_DL_conclude_3 : decode b_DL_conclude 3 = .ok (.bipush 6, 2) := by decide +kernel
theorem d_DL_conclude_5 : decode b_DL_conclude 5 = .ok (.if_icmp .ge 28, 3) := by decide +kernel
theorem d_DL_conclude_8 : decode b_DL_conclude 8 = .ok (.aload_n 0, 1) := by decide +kernel
theorem d_DL_conclude_9 : decode b_DL_conclude 9 = .ok (.getfield 24, 3) := by decide +kernel
theorem d_DL_conclude_12 : decode b_DL_conclude 12 = .ok (.iload_n 3, 1) := by decide +kernel
theorem d_DL_conclude_13 : decode b_DL_conclude 13 = .ok (.aaload, 1) := by decide +kernel
theorem d_DL_conclude_14 : decode b_DL_conclude 14 = .ok (.invokevirtual 135, 3) := by decide +kernel
theorem d_DL_conclude_17 : decode b_DL_conclude 17 = .ok (.ifCond .eq 10, 3) := by decide +kernel
theorem d_DL_conclude_20 : decode b_DL_conclude 20 = .ok (.aload_n 0, 1) := by decide +kernel
theorem d_DL_conclude_21 : decode b_DL_conclude 21 = .ok (.iconst (-1), 1) := by decide +kernel
theorem d_DL_conclude_22 : decode b_DL_conclude 22 = .ok (.iload_n 3, 1) := by decide +kernel
theorem d_DL_conclude_23 : decode b_DL_conclude 23 = .ok (.invokevirtual 138, 3) := by decide +kernel
theorem d_DL_conclude_26 : decode b_DL_conclude 26 = .ok (.ireturn, 1) := by decide +kernel
theorem d_DL_conclude_27 : decode b_DL_conclude 27 = .ok (.iinc 3 1, 3) := by decide +kernel
theorem d_DL_conclude_30 : decode b_DL_conclude 30 = .ok (.goto (-28), 3) := by decide +kernel
theorem d_DL_conclude_33 : decode b_DL_conclude 33 = .ok (.iconst 0, 1) := by decide +kernel
theorem d_DL_conclude_34 : decode b_DL_conclude 34 = .ok (.istore_n 3, 1) := by decide +kernel
theorem d_DL_conclude_35 : decode b_DL_conclude 35 = .ok (.iload_n 3, 1) := by decide +kernel
theorem d_DL_conclude_36 : decode b_DL_conclude 36 = .ok (.iconst 2, 1) := by decide +kernel
theorem d_DL_conclude_37 : decode b_DL_conclude 37 = .ok (.if_icmp .ge 28, 3) := by decide +kernel
theorem d_DL_conclude_40 : decode b_DL_conclude 40 = .ok (.aload_n 0, 1) := by decide +kernel
theorem d_DL_conclude_41 : decode b_DL_conclude 41 = .ok (.getfield 24, 3) := by decide +kernel
theorem d_DL_conclude_44 : decode b_DL_conclude 44 = .ok (.iload_n 3, 1) := by decide +kernel
theorem d_DL_conclude_45 : decode b_DL_conclude 45 = .ok (.aaload, 1) := by decide +kernel
theorem d_DL_conclude_46 : decode b_DL_conclude 46 = .ok (.invokevirtual 141, 3) := by decide +kernel
theorem d_DL_conclude_49 : decode b_DL_conclude 49 = .ok (.ifCond .eq 10, 3) := by decide +kernel
theorem d_DL_conclude_52 : decode b_DL_conclude 52 = .ok (.aload_n 0, 1) := by decide +kernel
theorem d_DL_conclude_53 : decode b_DL_conclude 53 = .ok (.iconst 0, 1) := by decide +kernel
theorem d_DL_conclude_54 : decode b_DL_conclude 54 = .ok (.iload_n 3, 1) := by decide +kernel
theorem d_DL_conclude_55 : decode b_DL_conclude 55 = .ok (.invokevirtual 138, 3) := by decide +kernel
theorem d_DL_conclude_58 : decode b_DL_conclude 58 = .ok (.ireturn, 1) := by decide +kernel
theorem d_DL_conclude_59 : decode b_DL_conclude 59 = .ok (.iinc 3 1, 3) := by decide +kernel
theorem d_DL_conclude_62 : decode b_DL_conclude 62 = .ok (.goto (-27), 3) := by decide +kernel
theorem d_DL_conclude_65 : decode b_DL_conclude 65 = .ok (.iload_n 2, 1) := by decide +kernel
theorem d_DL_conclude_66 : decode b_DL_conclude 66 = .ok (.ifCond .eq 23, 3) := by decide +kernel
theorem d_DL_conclude_69 : decode b_DL_conclude 69 = .ok (.aload_n 0, 1) := by decide +kernel
theorem d_DL_conclude_70 : decode b_DL_conclude 70 = .ok (.getfield 24, 3) := by decide +kernel
theorem d_DL_conclude_73 : decode b_DL_conclude 73 = .ok (.iconst 5, 1) := by decide +kernel
theorem d_DL_conclude_74 : decode b_DL_conclude 74 = .ok (.aaload, 1) := by decide +kernel
theorem d_DL_conclude_75 : decode b_DL_conclude 75 = .ok (.iload_n 1, 1) := by decide +kernel
theorem d_DL_conclude_76 : decode b_DL_conclude 76 = .ok (.invokevirtual 144, 3) := by decide +kernel
theorem d_DL_conclude_79 : decode b_DL_conclude 79 = .ok (.ifCond .eq 10, 3) := by decide +kernel
theorem d_DL_conclude_82 : decode b_DL_conclude 82 = .ok (.aload_n 0, 1) := by decide +kernel
theorem d_DL_conclude_83 : decode b_DL_conclude 83 = .ok (.iconst 1, 1) := by decide +kernel
theorem d_DL_conclude_84 : decode b_DL_conclude 84 = .ok (.iconst 5, 1) := by decide +kernel
theorem d_DL_conclude_85 : decode b_DL_conclude 85 = .ok (.invokevirtual 138, 3) := by decide +kernel
theorem d_DL_conclude_88 : decode b_DL_conclude 88 = .ok (.ireturn, 1) := by decide +kernel
theorem d_DL_conclude_89 : decode b_DL_conclude 89 = .ok (.aload_n 0, 1) := by decide +kernel
theorem d_DL_conclude_90 : decode b_DL_conclude 90 = .ok (.iload_n 2, 1) := by decide +kernel
theorem d_DL_conclude_91 : decode b_DL_conclude 91 = .ok (.invokevirtual 147, 3) := by decide +kernel
theorem d_DL_conclude_94 : decode b_DL_conclude 94 = .ok (.ireturn, 1) := by decide +kernel
theorem d_DL_concludeFromGrants_0 : decode b_DL_concludeFromGrants 0 = .ok (.aload_n 0, 1) := by decide +kernel
theorem d_DL_concludeFromGrants_1 : decode b_DL_concludeFromGrants 1 = .ok (.getfield 24, 3) := by decide +kernel
theorem d_DL_concludeFromGrants_4 : decode b_DL_concludeFromGrants 4 = .ok (.iconst 4, 1) := by decide +kernel
theorem d_DL_concludeFromGrants_5 : decode b_DL_concludeFromGrants 5 = .ok (.aaload, 1) := by decide +kernel
theorem d_DL_concludeFromGrants_6 : decode b_DL_concludeFromGrants 6 = .ok (.invokevirtual 151, 3) := by decide +kernel
theorem d_DL_concludeFromGrants_9 : decode b_DL_concludeFromGrants 9 = .ok (.istore_n 2, 1) := by decide +kernel
theorem d_DL_concludeFromGrants_10 : decode b_DL_concludeFromGrants 10 = .ok (.aload_n 0, 1) := by decide +kernel
theorem d_DL_concludeFromGrants_11 : decode b_DL_concludeFromGrants 11 = .ok (.getfield 24, 3) := by decide +kernel
theorem d_DL_concludeFromGrants_14 : decode b_DL_concludeFromGrants 14 = .ok (.iconst 5, 1) := by decide +kernel
theorem d_DL_concludeFromGrants_15 : decode b_DL_concludeFromGrants 15 = .ok (.aaload, 1) := by decide +kernel
theorem d_DL_concludeFromGrants_16 : decode b_DL_concludeFromGrants 16 = .ok (.invokevirtual 151, 3) := by decide +kernel
theorem d_DL_concludeFromGrants_19 : decode b_DL_concludeFromGrants 19 = .ok (.istore_n 3, 1) := by decide +kernel
theorem d_DL_concludeFromGrants_20 : decode b_DL_concludeFromGrants 20 = .ok (.iload_n 2, 1) := by decide +kernel
theorem d_DL_concludeFromGrants_21 : decode b_DL_concludeFromGrants 21 = .ok (.ifCond .ne 18, 3) := by decide +kernel
theorem d_DL_concludeFromGrants_24 : decode b_DL_concludeFromGrants 24 = .ok (.iload_n 1, 1) := by decide +kernel
theorem d_DL_concludeFromGrants_25 : decode b_DL_concludeFromGrants 25 = .ok (.ifCond .eq 7, 3) := by decide +kernel
theorem d_DL_concludeFromGrants_28 : decode b_DL_concludeFromGrants 28 = .ok (.iload_n 3, 1) := by decide +kernel
theorem d_DL_concludeFromGrants_29 : decode b_DL_concludeFromGrants 29 = .ok (.ifCond .ne 10, 3) := by decide +kernel
theorem d_DL_concludeFromGrants_32 : decode b_DL_concludeFromGrants 32 = .ok (.aload_n 0, 1) := by decide +kernel
theorem d_DL_concludeFromGrants_33 : decode b_DL_concludeFromGrants 33 = .ok (.iconst 0, 1) := by decide +kernel
theorem d_DL_concludeFromGrants_34 : decode b_DL_concludeFromGrants 34 = .ok (.iconst 4, 1) := by decide +kernel
theorem d_DL_concludeFromGrants_35 : decode b_DL_concludeFromGrants 35 = .ok (.invokevirtual 138, 3) := by decide +kernel
theorem d_DL_concludeFromGrants_38 : decode b_DL_concludeFromGrants 38 = .ok (.ireturn, 1) := by decide +kernel
theorem d_DL_concludeFromGrants_39 : decode b_DL_concludeFromGrants 39 = .ok (.iload_n 1, 1) := by decide +kernel
theorem d_DL_concludeFromGrants_40 : decode b_DL_concludeFromGrants 40 = .ok (.ifCond .ne 14, 3) := by decide +kernel
theorem d_DL_concludeFromGrants_43 : decode b_DL_concludeFromGrants 43 = .ok (.iload_n 3, 1) := by decide +kernel
theorem d_DL_concludeFromGrants_44 : decode b_DL_concludeFromGrants 44 = .ok (.ifCond .ne 10, 3) := by decide +kernel
theorem d_DL_concludeFromGrants_47 : decode b_DL_concludeFromGrants 47 = .ok (.aload_n 0, 1) := by decide +kernel
theorem d_DL_concludeFromGrants_48 : decode b_DL_concludeFromGrants 48 = .ok (.iconst 0, 1) := by decide +kernel
theorem d_DL_concludeFromGrants_49 : decode b_DL_concludeFromGrants 49 = .ok (.iconst 5, 1) := by decide +kernel
theorem d_DL_concludeFromGrants_50 : decode b_DL_concludeFromGrants 50 = .ok (.invokevirtual 138, 3) := by decide +kernel
theorem d_DL_concludeFromGrants_53 : decode b_DL_concludeFromGrants 53 = .ok (.ireturn, 1) := by decide +kernel
theorem d_DL_concludeFromGrants_54 : decode b_DL_concludeFromGrants 54 = .ok (.iconst 2, 1) := by decide +kernel
theorem d_DL_concludeFromGrants_55 : decode b_DL_concludeFromGrants 55 = .ok (.istore 4, 2) := by decide +kernel
theorem d_DL_concludeFromGrants_57 : decode b_DL_concludeFromGrants 57 = .ok (.iload 4, 2) := by decide +kernel
theorem d_DL_concludeFromGrants_59 : decode b_DL_concludeFromGrants 59 = .ok (.iconst 3, 1) := by decide +kernel
theorem d_DL_concludeFromGrants_60 : decode b_DL_concludeFromGrants 60 = .ok (.if_icmp .gt 30, 3) := by decide +kernel
theorem d_DL_concludeFromGrants_63 : decode b_DL_concludeFromGrants 63 = .ok (.aload_n 0, 1) := by decide +kernel
theorem d_DL_concludeFromGrants_64 : decode b_DL_concludeFromGrants 64 = .ok (.getfield 24, 3) := by decide +kernel
theorem d_DL_concludeFromGrants_67 : decode b_DL_concludeFromGrants 67 = .ok (.iload 4, 2) := by decide +kernel
theorem d_DL_concludeFromGrants_69 : decode b_DL_concludeFromGrants 69 = .ok (.aaload, 1) := by decide +kernel
theorem d_DL_concludeFromGrants_70 : decode b_DL_concludeFromGrants 70 = .ok (.invokevirtual 141, 3) := by decide +kernel
theorem d_DL_concludeFromGrants_73 : decode b_DL_concludeFromGrants 73 = .ok (.ifCond .eq 11, 3) := by decide +kernel
theorem d_DL_concludeFromGrants_76 : decode b_DL_concludeFromGrants 76 = .ok (.aload_n 0, 1) := by decide +kernel
theorem d_DL_concludeFromGrants_77 : decode b_DL_concludeFromGrants 77 = .ok (.iconst 0, 1) := by decide +kernel
theorem d_DL_concludeFromGrants_78 : decode b_DL_concludeFromGrants 78 = .ok (.iload 4, 2) := by decide +kernel
theorem d_DL_concludeFromGrants_80 : decode b_DL_concludeFromGrants 80 = .ok (.invokevirtual 138, 3) := by decide +kernel
theorem d_DL_concludeFromGrants_83 : decode b_DL_concludeFromGrants 83 = .ok (.ireturn, 1) := by decide +kernel
theorem d_DL_concludeFromGrants_84 : decode b_DL_concludeFromGrants 84 = .ok (.iinc 4 1, 3) := by decide +kernel
theorem d_DL_concludeFromGrants_87 : decode b_DL_concludeFromGrants 87 = .ok (.goto (-30), 3) := by decide +kernel
theorem d_DL_concludeFromGrants_90 : decode b_DL_concludeFromGrants 90 = .ok (.aload_n 0, 1) := by decide +kernel
theorem d_DL_concludeFromGrants_91 : decode b_DL_concludeFromGrants 91 = .ok (.iconst 1, 1) := by decide +kernel
theorem d_DL_concludeFromGrants_92 : decode b_DL_concludeFromGrants 92 = .ok (.iload_n 2, 1) := by decide +kernel
theorem d_DL_concludeFromGrants_93 : decode b_DL_concludeFromGrants 93 = .ok (.ifCond .eq 7, 3) := by decide +kernel
theorem d_DL_concludeFromGrants_96 : decode b_DL_concludeFromGrants 96 = .ok (.iconst 4, 1) := by decide +kernel
theorem d_DL_concludeFromGrants_97 : decode b_DL_concludeFromGrants 97 = .ok (.goto 4, 3) := by decide +kernel
theorem d_DL_concludeFromGrants_100 : decode b_DL_concludeFromGrants 100 = .ok (.iconst 5, 1) := by decide +kernel
theorem d_DL_concludeFromGrants_101 : decode b_DL_concludeFromGrants 101 = .ok (.invokevirtual 138, 3) := by decide +kernel
theorem d_DL_concludeFromGrants_104 : decode b_DL_concludeFromGrants 104 = .ok (.ireturn, 1) := by decide +kernel
theorem d_DL_decide_0 : decode b_DL_decide 0 = .ok (.iload_n 1, 1) := by decide +kernel
theorem d_DL_decide_1 : decode b_DL_decide 1 = .ok (.invokestatic 96, 3) := by decide +kernel
theorem d_DL_decide_4 : decode b_DL_decide 4 = .ok (.ifCond .eq 18, 3) := by decide +kernel
theorem d_DL_decide_7 : decode b_DL_decide 7 = .ok (.iload_n 2, 1) := by decide +kernel
theorem d_DL_decide_8 : decode b_DL_decide 8 = .ok (.invokestatic 96, 3) := by decide +kernel
theorem d_DL_decide_11 : decode b_DL_decide 11 = .ok (.ifCond .eq 11, 3) := by decide +kernel
theorem d_DL_decide_14 : decode b_DL_decide 14 = .ok (.iload 7, 2) := by decide +kernel
theorem d_DL_decide_16 : decode b_DL_decide 16 = .ok (.invokestatic 96, 3) := by decide +kernel
theorem d_DL_decide_19 : decode b_DL_decide 19 = .ok (.ifCond .ne 6, 3) := by decide +kernel
theorem d_DL_decide_22 : decode b_DL_decide 22 = .ok (.bipush (-2), 2) := by decide +kernel
theorem d_DL_decide_24 : decode b_DL_decide 24 = .ok (.ireturn, 1) := by decide +kernel
theorem d_DL_decide_25 : decode b_DL_decide 25 = .ok (.iload_n 1, 1) := by decide +kernel
theorem d_DL_decide_26 : decode b_DL_decide 26 = .ok (.iload_n 2, 1) := by decide +kernel
theorem d_DL_decide_27 : decode b_DL_decide 27 = .ok (.invokestatic 99, 3) := by decide +kernel
theorem d_DL_decide_30 : decode b_DL_decide 30 = .ok (.istore 8, 2) := by decide +kernel
theorem d_DL_decide_32 : decode b_DL_decide 32 = .ok (.iconst 0, 1) := by decide +kernel
theorem d_DL_decide_33 : decode b_DL_decide 33 = .ok (.istore 9, 2) := by decide +kernel
theorem d_DL_decide_35 : decode b_DL_decide 35 = .ok (.iload 9, 2) := by decide +kernel
theorem d_DL_decide_37 : decode b_DL_decide 37 = .ok (.bipush 6, 2) := by decide +kernel
theorem d_DL_decide_39 : decode b_DL_decide 39 = .ok (.if_icmp .ge 28, 3) := by decide +kernel
theorem d_DL_decide_42 : decode b_DL_decide 42 = .ok (.aload_n 0, 1) := by decide +kernel
theorem d_DL_decide_43 : decode b_DL_decide 43 = .ok (.getfield 24, 3) := by decide +kernel
theorem d_DL_decide_46 : decode b_DL_decide 46 = .ok (.iload 9, 2) := by decide +kernel
theorem d_DL_decide_48 : decode b_DL_decide 48 = .ok (.aaload, 1) := by decide +kernel
theorem d_DL_decide_49 : decode b_DL_decide 49 = .ok (.iload 8, 2) := by decide +kernel
theorem d_DL_decide_51 : decode b_DL_decide 51 = .ok (.lload_n 3, 1) := by decide +kernel
theorem d_DL_decide_52 : decode b_DL_decide 52 = .ok (.lload 5, 2) := by decide +kernel
theorem d_DL_decide_54 : decode b_DL_decide 54 = .ok (.aload_n 0, 1) := by decide +kernel
theorem d_DL_decide_55 : decode b_DL_decide 55 = .ok (.getfield 10, 3) := by decide +kernel
theorem d_DL_decide_58 : decode b_DL_decide 58 = .ok (.invokevirtual 103, 3) := by decide +kernel
theorem d_DL_decide_61 : decode b_DL_decide 61 = .ok (.iinc 9 1, 3) := by decide +kernel
theorem d_DL_decide_64 : decode b_DL_decide 64 = .ok (.goto (-29), 3) := by decide +kernel
theorem d_DL_decide_67 : decode b_DL_decide 67 = .ok (.aload_n 0, 1) := by decide +kernel
theorem d_DL_decide_68 : decode b_DL_decide 68 = .ok (.iload 8, 2) := by decide +kernel
theorem d_DL_decide_70 : decode b_DL_decide 70 = .ok (.iload 7, 2) := by decide +kernel
theorem d_DL_decide_72 : decode b_DL_decide 72 = .ok (.iload_n 1, 1) := by decide +kernel
theorem d_DL_decide_73 : decode b_DL_decide 73 = .ok (.if_icmp .ne 7, 3) := by decide +kernel
theorem d_DL_decide_76 : decode b_DL_decide 76 = .ok (.iconst 1, 1) := by decide +kernel
theorem d_DL_decide_77 : decode b_DL_decide 77 = .ok (.goto 4, 3) := by decide +kernel
theorem d_DL_decide_80 : decode b_DL_decide 80 = .ok (.iconst 0, 1) := by decide +kernel
theorem d_DL_decide_81 : decode b_DL_decide 81 = .ok (.invokevirtual 107, 3) := by decide +kernel
theorem d_DL_decide_84 : decode b_DL_decide 84 = .ok (.ireturn, 1) := by decide +kernel
theorem d_DL_discard_0 : decode b_DL_discard 0 = .ok (.aload_n 0, 1) := by decide +kernel
theorem d_DL_discard_1 : decode b_DL_discard 1 = .ok (.invokevirtual 55, 3) := by decide +kernel
theorem d_DL_discard_4 : decode b_DL_discard 4 = .ok (.ifnull 7, 3) := by decide +kernel
theorem d_DL_discard_7 : decode b_DL_discard 7 = .ok (.iconst 1, 1) := by decide +kernel
theorem d_DL_discard_8 : decode b_DL_discard 8 = .ok (.goto 4, 3) := by decide +kernel
theorem d_DL_discard_11 : decode b_DL_discard 11 = .ok (.iconst 0, 1) := by decide +kernel
theorem d_DL_discard_12 : decode b_DL_discard 12 = .ok (.ireturn, 1) := by decide +kernel
theorem d_DL_drop_0 : decode b_DL_drop 0 = .ok (.iload_n 1, 1) := by decide +kernel
theorem d_DL_drop_1 : decode b_DL_drop 1 = .ok (.invokestatic 62, 3) := by decide +kernel
theorem d_DL_drop_4 : decode b_DL_drop 4 = .ok (.ifCond .eq 15, 3) := by decide +kernel
theorem d_DL_drop_7 : decode b_DL_drop 7 = .ok (.aload_n 0, 1) := by decide +kernel
theorem d_DL_drop_8 : decode b_DL_drop 8 = .ok (.getfield 24, 3) := by decide +kernel
theorem d_DL_drop_11 : decode b_DL_drop 11 = .ok (.iload_n 1, 1) := by decide +kernel
theorem d_DL_drop_12 : decode b_DL_drop 12 = .ok (.aaload, 1) := by decide +kernel
theorem d_DL_drop_13 : decode b_DL_drop 13 = .ok (.getfield 79, 3) := by decide +kernel
theorem d_DL_drop_16 : decode b_DL_drop 16 = .ok (.ifCond .ne 5, 3) := by decide +kernel
theorem d_DL_drop_19 : decode b_DL_drop 19 = .ok (.iconst 0, 1) := by decide +kernel
theorem d_DL_drop_20 : decode b_DL_drop 20 = .ok (.ireturn, 1) := by decide +kernel
theorem d_DL_drop_21 : decode b_DL_drop 21 = .ok (.aload_n 0, 1) := by decide +kernel
theorem d_DL_drop_22 : decode b_DL_drop 22 = .ok (.getfield 24, 3) := by decide +kernel
theorem d_DL_drop_25 : decode b_DL_drop 25 = .ok (.iload_n 1, 1) := by decide +kernel
theorem d_DL_drop_26 : decode b_DL_drop 26 = .ok (.aaload, 1) := by decide +kernel
theorem d_DL_drop_27 : decode b_DL_drop 27 = .ok (.invokevirtual 83, 3) := by decide +kernel
theorem d_DL_drop_30 : decode b_DL_drop 30 = .ok (.iconst 1, 1) := by decide +kernel
theorem d_DL_drop_31 : decode b_DL_drop 31 = .ok (.ireturn, 1) := by decide +kernel
theorem d_DL_forget_0 : decode b_DL_forget 0 = .ok (.iload_n 1, 1) := by decide +kernel
theorem d_DL_forget_1 : decode b_DL_forget 1 = .ok (.invokestatic 36, 3) := by decide +kernel
theorem d_DL_forget_4 : decode b_DL_forget 4 = .ok (.ifCond .eq 14, 3) := by decide +kernel
theorem d_DL_forget_7 : decode b_DL_forget 7 = .ok (.aload_n 0, 1) := by decide +kernel
theorem d_DL_forget_8 : decode b_DL_forget 8 = .ok (.getfield 10, 3) := by decide +kernel
theorem d_DL_forget_11 : decode b_DL_forget 11 = .ok (.iload_n 1, 1) := by decide +kernel
theorem d_DL_forget_12 : decode b_DL_forget 12 = .ok (.invokevirtual 94, 3) := by decide +kernel
theorem d_DL_forget_15 : decode b_DL_forget 15 = .ok (.goto 5, 3) := by decide +kernel
theorem d_DL_forget_18 : decode b_DL_forget 18 = .ok (.bipush (-2), 2) := by decide +kernel
theorem d_DL_forget_20 : decode b_DL_forget 20 = .ok (.ireturn, 1) := by decide +kernel
theorem d_DL_greatestDepthOfTopmost_0 : decode b_DL_greatestDepthOfTopmost 0 = .ok (.iconst 0, 1) := by decide +kernel
theorem d_DL_greatestDepthOfTopmost_1 : decode b_DL_greatestDepthOfTopmost 1 = .ok (.istore_n 2, 1) := by decide +kernel
theorem d_DL_greatestDepthOfTopmost_2 : decode b_DL_greatestDepthOfTopmost 2 = .ok (.aload_n 0, 1) := by decide +kernel
theorem d_DL_greatestDepthOfTopmost_3 : decode b_DL_greatestDepthOfTopmost 3 = .ok (.getfield 29, 3) := by decide +kernel
theorem d_DL_greatestDepthOfTopmost_6 : decode b_DL_greatestDepthOfTopmost 6 = .ok (.iload_n 1, 1) := by decide +kernel
theorem d_DL_greatestDepthOfTopmost_7 : decode b_DL_greatestDepthOfTopmost 7 = .ok (.isub, 1) := by decide +kernel
theorem d_DL_greatestDepthOfTopmost_8 : decode b_DL_greatestDepthOfTopmost 8 = .ok (.istore_n 3, 1) := by decide +kernel
theorem d_DL_greatestDepthOfTopmost_9 : decode b_DL_greatestDepthOfTopmost 9 = .ok (.iload_n 3, 1) := by decide +kernel
theorem d_DL_greatestDepthOfTopmost_10 : decode b_DL_greatestDepthOfTopmost 10 = .ok (.aload_n 0, 1) := by decide +kernel
theorem d_DL_greatestDepthOfTopmost_11 : decode b_DL_greatestDepthOfTopmost 11 = .ok (.getfield 29, 3) := by decide +kernel
theorem d_DL_greatestDepthOfTopmost_14 : decode b_DL_greatestDepthOfTopmost 14 = .ok (.if_icmp .ge 32, 3) := by decide +kernel
theorem d_DL_greatestDepthOfTopmost_17 : decode b_DL_greatestDepthOfTopmost 17 = .ok (.aload_n 0, 1) := by decide +kernel
theorem d_DL_greatestDepthOfTopmost_18 : decode b_DL_greatestDepthOfTopmost 18 = .ok (.getfield 18, 3) := by decide +kernel
theorem d_DL_greatestDepthOfTopmost_21 : decode b_DL_greatestDepthOfTopmost 21 = .ok (.iload_n 3, 1) := by decide +kernel
theorem d_DL_greatestDepthOfTopmost_22 : decode b_DL_greatestDepthOfTopmost 22 = .ok (.aaload, 1) := by decide +kernel
theorem d_DL_greatestDepthOfTopmost_23 : decode b_DL_greatestDepthOfTopmost 23 = .ok (.astore 4, 2) := by decide +kernel
theorem d_DL_greatestDepthOfTopmost_25 : decode b_DL_greatestDepthOfTopmost 25 = .ok (.aload 4, 2) := by decide +kernel
theorem d_DL_greatestDepthOfTopmost_27 : decode b_DL_greatestDepthOfTopmost 27 = .ok (.ifnull 13, 3) := by decide +kernel
theorem d_DL_greatestDepthOfTopmost_30 : decode b_DL_greatestDepthOfTopmost 30 = .ok (.iload_n 2, 1) := by decide +kernel
theorem d_DL_greatestDepthOfTopmost_31 : decode b_DL_greatestDepthOfTopmost 31 = .ok (.aload 4, 2) := by decide +kernel
theorem d_DL_greatestDepthOfTopmost_33 : decode b_DL_greatestDepthOfTopmost 33 = .ok (.getfield 127, 3) := by decide +kernel
theorem d_DL_greatestDepthOfTopmost_36 : decode b_DL_greatestDepthOfTopmost 36 = .ok (.invokestatic 130, 3) := by decide +kernel
theorem d_DL_greatestDepthOfTopmost_39 : decode b_DL_greatestDepthOfTopmost 39 = .ok (.istore_n 2, 1) := by decide +kernel
theorem d_DL_greatestDepthOfTopmost_40 : decode b_DL_greatestDepthOfTopmost 40 = .ok (.iinc 3 1, 3) := by decide +kernel
theorem d_DL_greatestDepthOfTopmost_43 : decode b_DL_greatestDepthOfTopmost 43 = .ok (.goto (-34), 3) := by decide +kernel
theorem d_DL_greatestDepthOfTopmost_46 : decode b_DL_greatestDepthOfTopmost 46 = .ok (.iload_n 2, 1) := by decide +kernel
theorem d_DL_greatestDepthOfTopmost_47 : decode b_DL_greatestDepthOfTopmost 47 = .ok (.ireturn, 1) := by decide +kernel
theorem d_DL_holds_0 : decode b_DL_holds 0 = .ok (.iload_n 1, 1) := by decide +kernel
theorem d_DL_holds_1 : decode b_DL_holds 1 = .ok (.ifCond .lt 11, 3) := by decide +kernel
theorem d_DL_holds_4 : decode b_DL_holds 4 = .ok (.iload_n 1, 1) := by decide +kernel
theorem d_DL_holds_5 : decode b_DL_holds 5 = .ok (.aload_n 0, 1) := by decide +kernel
theorem d_DL_holds_6 : decode b_DL_holds 6 = .ok (.getfield 29, 3) := by decide +kernel
theorem d_DL_holds_9 : decode b_DL_holds 9 = .ok (.if_icmp .lt 5, 3) := by decide +kernel
theorem d_DL_holds_12 : decode b_DL_holds 12 = .ok (.iconst 0, 1) := by decide +kernel
theorem d_DL_holds_13 : decode b_DL_holds 13 = .ok (.ireturn, 1) := by decide +kernel
theorem d_DL_holds_14 : decode b_DL_holds 14 = .ok (.aload_n 0, 1) := by decide +kernel
theorem d_DL_holds_15 : decode b_DL_holds 15 = .ok (.getfield 18, 3) := by decide +kernel
theorem d_DL_holds_18 : decode b_DL_holds 18 = .ok (.iload_n 1, 1) := by decide +kernel
theorem d_DL_holds_19 : decode b_DL_holds 19 = .ok (.aaload, 1) := by decide +kernel
theorem d_DL_holds_20 : decode b_DL_holds 20 = .ok (.astore_n 2, 1) := by decide +kernel
theorem d_DL_holds_21 : decode b_DL_holds 21 = .ok (.aload_n 2, 1) := by decide +kernel
theorem d_DL_holds_22 : decode b_DL_holds 22 = .ok (.ifnull 18, 3) := by decide +kernel
theorem d_DL_holds_25 : decode b_DL_holds 25 = .ok (.aload_n 2, 1) := by decide +kernel
theorem d_DL_holds_26 : decode b_DL_holds 26 = .ok (.aload_n 0, 1) := by decide +kernel
theorem d_DL_holds_27 : decode b_DL_holds 27 = .ok (.getfield 10, 3) := by decide +kernel
theorem d_DL_holds_30 : decode b_DL_holds 30 = .ok (.invokevirtual 120, 3) := by decide +kernel
theorem d_DL_holds_33 : decode b_DL_holds 33 = .ok (.ifCond .eq 7, 3) := by decide +kernel
theorem d_DL_holds_36 : decode b_DL_holds 36 = .ok (.iconst 1, 1) := by decide +kernel
theorem d_DL_holds_37 : decode b_DL_holds 37 = .ok (.goto 4, 3) := by decide +kernel
theorem d_DL_holds_40 : decode b_DL_holds 40 = .ok (.iconst 0, 1) := by decide +kernel
theorem d_DL_holds_41 : decode b_DL_holds 41 = .ok (.ireturn, 1) := by decide +kernel
theorem d_DL_init_0 : decode b_DL_init 0 = .ok (.aload_n 0, 1) := by decide +kernel
theorem d_DL_init_1 : decode b_DL_init 1 = .ok (.invokespecial 1, 3) := by decide +kernel
theorem d_DL_init_4 : decode b_DL_init 4 = .ok (.aload_n 0, 1) := by decide +kernel
theorem d_DL_init_5 : decode b_DL_init 5 = .ok (.new 7, 3) := by decide +kernel
theorem d_DL_init_8 : decode b_DL_init 8 = .ok (.dup, 1) := by decide +kernel
theorem d_DL_init_9 : decode b_DL_init 9 = .ok (.invokespecial 9, 3) := by decide +kernel
theorem d_DL_init_12 : decode b_DL_init 12 = .ok (.putfield 10, 3) := by decide +kernel
theorem d_DL_init_15 : decode b_DL_init 15 = .ok (.aload_n 0, 1) := by decide +kernel
theorem d_DL_init_16 : decode b_DL_init 16 = .ok (.bipush 8, 2) := by decide +kernel
theorem d_DL_init_18 : decode b_DL_init 18 = .ok (.anewarray 16, 3) := by decide +kernel
theorem d_DL_init_21 : decode b_DL_init 21 = .ok (.putfield 18, 3) := by decide +kernel
theorem d_DL_init_24 : decode b_DL_init 24 = .ok (.aload_n 0, 1) := by decide +kernel
theorem d_DL_init_25 : decode b_DL_init 25 = .ok (.bipush 6, 2) := by decide +kernel
theorem d_DL_init_27 : decode b_DL_init 27 = .ok (.anewarray 22, 3) := by decide +kernel
theorem d_DL_init_30 : decode b_DL_init 30 = .ok (.putfield 24, 3) := by decide +kernel
theorem d_DL_init_33 : decode b_DL_init 33 = .ok (.iconst 0, 1) := by decide +kernel
theorem d_DL_init_34 : decode b_DL_init 34 = .ok (.istore_n 1, 1) := by decide +kernel
theorem d_DL_init_35 : decode b_DL_init 35 = .ok (.iload_n 1, 1) := by decide +kernel
theorem d_DL_init_36 : decode b_DL_init 36 = .ok (.bipush 6, 2) := by decide +kernel
theorem d_DL_init_38 : decode b_DL_init 38 = .ok (.if_icmp .ge 22, 3) := by decide +kernel
theorem d_DL_init_41 : decode b_DL_init 41 = .ok (.aload_n 0, 1) := by decide +kernel
theorem d_DL_init_42 : decode b_DL_init 42 = .ok (.getfield 24, 3) := by decide +kernel
theorem d_DL_init_45 : decode b_DL_init 45 = .ok (.iload_n 1, 1) := by decide +kernel
theorem d_DL_init_46 : decode b_DL_init 46 = .ok (.new 22, 3) := by decide +kernel
theorem d_DL_init_49 : decode b_DL_init 49 = .ok (.dup, 1) := by decide +kernel
theorem d_DL_init_50 : decode b_DL_init 50 = .ok (.invokespecial 28, 3) := by decide +kernel
theorem d_DL_init_53 : decode b_DL_init 53 = .ok (.aastore, 1) := by decide +kernel
theorem d_DL_init_54 : decode b_DL_init 54 = .ok (.iinc 1 1, 3) := by decide +kernel
theorem d_DL_init_57 : decode b_DL_init 57 = .ok (.goto (-22), 3) := by decide +kernel
theorem d_DL_init_60 : decode b_DL_init 60 = .ok (.aload_n 0, 1) := by decide +kernel
theorem d_DL_init_61 : decode b_DL_init 61 = .ok (.iconst 0, 1) := by decide +kernel
theorem d_DL_init_62 : decode b_DL_init 62 = .ok (.putfield 29, 3) := by decide +kernel
theorem d_DL_init_65 : decode b_DL_init 65 = .ok (.aload_n 0, 1) := by decide +kernel
theorem d_DL_init_66 : decode b_DL_init 66 = .ok (.iconst (-1), 1) := by decide +kernel
theorem d_DL_init_67 : decode b_DL_init 67 = .ok (.putfield 33, 3) := by decide +kernel
theorem d_DL_init_70 : decode b_DL_init 70 = .ok (.return_, 1) := by decide +kernel
theorem d_DL_isDigit_0 : decode b_DL_isDigit 0 = .ok (.iload_n 0, 1) := by decide +kernel
theorem d_DL_isDigit_1 : decode b_DL_isDigit 1 = .ok (.ifCond .lt 13, 3) := by decide +kernel
theorem d_DL_isDigit_4 : decode b_DL_isDigit 4 = .ok (.iload_n 0, 1) := by decide +kernel
theorem d_DL_isDigit_5 : decode b_DL_isDigit 5 = .ok (.bipush 9, 2) := by decide +kernel
theorem d_DL_isDigit_7 : decode b_DL_isDigit 7 = .ok (.if_icmp .gt 7, 3) := by decide +kernel
theorem d_DL_isDigit_10 : decode b_DL_isDigit 10 = .ok (.iconst 1, 1) := by decide +kernel
theorem d_DL_isDigit_11 : decode b_DL_isDigit 11 = .ok (.goto 4, 3) := by decide +kernel
theorem d_DL_isDigit_14 : decode b_DL_isDigit 14 = .ok (.iconst 0, 1) := by decide +kernel
theorem d_DL_isDigit_15 : decode b_DL_isDigit 15 = .ok (.ireturn, 1) := by decide +kernel
theorem d_DL_isLayer_0 : decode b_DL_isLayer 0 = .ok (.iload_n 0, 1) := by decide +kernel
theorem d_DL_isLayer_1 : decode b_DL_isLayer 1 = .ok (.ifCond .lt 13, 3) := by decide +kernel
theorem d_DL_isLayer_4 : decode b_DL_isLayer 4 = .ok (.iload_n 0, 1) := by decide +kernel
theorem d_DL_isLayer_5 : decode b_DL_isLayer 5 = .ok (.bipush 6, 2) := by decide +kernel
theorem d_DL_isLayer_7 : decode b_DL_isLayer 7 = .ok (.if_icmp .ge 7, 3) := by decide +kernel
theorem d_DL_isLayer_10 : decode b_DL_isLayer 10 = .ok (.iconst 1, 1) := by decide +kernel
theorem d_DL_isLayer_11 : decode b_DL_isLayer 11 = .ok (.goto 4, 3) := by decide +kernel
theorem d_DL_isLayer_14 : decode b_DL_isLayer 14 = .ok (.iconst 0, 1) := by decide +kernel
theorem d_DL_isLayer_15 : decode b_DL_isLayer 15 = .ok (.ireturn, 1) := by decide +kernel
theorem d_DL_join_0 : decode b_DL_join 0 = .ok (.iload_n 1, 1) := by decide +kernel
theorem d_DL_join_1 : decode b_DL_join 1 = .ok (.ifCond .lt 20, 3) := by decide +kernel
theorem d_DL_join_4 : decode b_DL_join 4 = .ok (.iload_n 1, 1) := by decide +kernel
theorem d_DL_join_5 : decode b_DL_join 5 = .ok (.iconst 2, 1) := by decide +kernel
theorem d_DL_join_6 : decode b_DL_join 6 = .ok (.if_icmp .gt 15, 3) := by decide +kernel
theorem d_DL_join_9 : decode b_DL_join 9 = .ok (.iload_n 2, 1) := by decide +kernel
theorem d_DL_join_10 : decode b_DL_join 10 = .ok (.ifCond .lt 11, 3) := by decide +kernel
theorem d_DL_join_13 : decode b_DL_join 13 = .ok (.iload_n 2, 1) := by decide +kernel
theorem d_DL_join_14 : decode b_DL_join 14 = .ok (.aload_n 0, 1) := by decide +kernel
theorem d_DL_join_15 : decode b_DL_join 15 = .ok (.getfield 29, 3) := by decide +kernel
theorem d_DL_join_18 : decode b_DL_join 18 = .ok (.if_icmp .le 6, 3) := by decide +kernel
theorem d_DL_join_21 : decode b_DL_join 21 = .ok (.bipush (-2), 2) := by decide +kernel
theorem d_DL_join_23 : decode b_DL_join 23 = .ok (.ireturn, 1) := by decide +kernel
theorem d_DL_join_24 : decode b_DL_join 24 = .ok (.iload_n 1, 1) := by decide +kernel
theorem d_DL_join_25 : decode b_DL_join 25 = .ok (.iconst 2, 1) := by decide +kernel
theorem d_DL_join_26 : decode b_DL_join 26 = .ok (.if_icmp .ne 11, 3) := by decide +kernel
theorem d_DL_join_29 : decode b_DL_join 29 = .ok (.iload_n 2, 1) := by decide +kernel
theorem d_DL_join_30 : decode b_DL_join 30 = .ok (.iconst 1, 1) := by decide +kernel
theorem d_DL_join_31 : decode b_DL_join 31 = .ok (.if_icmp .eq 6, 3) := by decide +kernel
theorem d_DL_join_34 : decode b_DL_join 34 = .ok (.bipush (-2), 2) := by decide +kernel
theorem d_DL_join_36 : decode b_DL_join 36 = .ok (.ireturn, 1) := by decide +kernel
theorem d_DL_join_37 : decode b_DL_join 37 = .ok (.iload_n 2, 1) := by decide +kernel
theorem d_DL_join_38 : decode b_DL_join 38 = .ok (.ifCond .ne 15, 3) := by decide +kernel
theorem d_DL_join_41 : decode b_DL_join 41 = .ok (.aload_n 0, 1) := by decide +kernel
theorem d_DL_join_42 : decode b_DL_join 42 = .ok (.getfield 29, 3) := by decide +kernel
theorem d_DL_join_45 : decode b_DL_join 45 = .ok (.bipush 8, 2) := by decide +kernel
theorem d_DL_join_47 : decode b_DL_join 47 = .ok (.if_icmp .lt 6, 3) := by decide +kernel
theorem d_DL_join_50 : decode b_DL_join 50 = .ok (.bipush (-3), 2) := by decide +kernel
theorem d_DL_join_52 : decode b_DL_join 52 = .ok (.ireturn, 1) := by decide +kernel
theorem d_DL_join_53 : decode b_DL_join 53 = .ok (.iconst 1, 1) := by decide +kernel
theorem d_DL_join_54 : decode b_DL_join 54 = .ok (.aload_n 0, 1) := by decide +kernel
theorem d_DL_join_55 : decode b_DL_join 55 = .ok (.iload_n 2, 1) := by decide +kernel
theorem d_DL_join_56 : decode b_DL_join 56 = .ok (.invokevirtual 51, 3) := by decide +kernel
theorem d_DL_join_59 : decode b_DL_join 59 = .ok (.iadd, 1) := by decide +kernel
theorem d_DL_join_60 : decode b_DL_join 60 = .ok (.istore_n 3, 1) := by decide +kernel
theorem d_DL_join_61 : decode b_DL_join 61 = .ok (.iload_n 3, 1) := by decide +kernel
theorem d_DL_join_62 : decode b_DL_join 62 = .ok (.iconst 5, 1) := by decide +kernel
theorem d_DL_join_63 : decode b_DL_join 63 = .ok (.if_icmp .le 6, 3) := by decide +kernel
theorem d_DL_join_66 : decode b_DL_join 66 = .ok (.bipush (-4), 2) := by decide +kernel
theorem d_DL_join_68 : decode b_DL_join 68 = .ok (.ireturn, 1) := by decide +kernel
theorem d_DL_join_69 : decode b_DL_join 69 = .ok (.iload_n 2, 1) := by decide +kernel
theorem d_DL_join_70 : decode b_DL_join 70 = .ok (.anewarray 16, 3) := by decide +kernel
theorem d_DL_join_73 : decode b_DL_join 73 = .ok (.astore 4, 2) := by decide +kernel
theorem d_DL_join_75 : decode b_DL_join 75 = .ok (.iload_n 2, 1) := by decide +kernel
theorem d_DL_join_76 : decode b_DL_join 76 = .ok (.iconst 1, 1) := by decide +kernel
theorem d_DL_join_77 : decode b_DL_join 77 = .ok (.isub, 1) := by decide +kernel
theorem d_DL_join_78 : decode b_DL_join 78 = .ok (.istore 5, 2) := by decide +kernel
theorem d_DL_join_80 : decode b_DL_join 80 = .ok (.iload 5, 2) := by decide +kernel
theorem d_DL_join_82 : decode b_DL_join 82 = .ok (.ifCond .lt 18, 3) := by decide +kernel
theorem d_DL_join_85 : decode b_DL_join 85 = .ok (.aload 4, 2) := by decide +kernel
theorem d_DL_join_87 : decode b_DL_join 87 = .ok (.iload 5, 2) := by decide +kernel
theorem d_DL_join_89 : decode b_DL_join 89 = .ok (.aload_n 0, 1) := by decide +kernel
theorem d_DL_join_90 : decode b_DL_join 90 = .ok (.invokevirtual 55, 3) := by decide +kernel
theorem d_DL_join_93 : decode b_DL_join 93 = .ok (.aastore, 1) := by decide +kernel
theorem d_DL_join_94 : decode b_DL_join 94 = .ok (.iinc 5 (-1), 3) := by decide +kernel
theorem d_DL_join_97 : decode b_DL_join 97 = .ok (.goto (-17), 3) := by decide +kernel
theorem d_DL_join_100 : decode b_DL_join 100 = .ok (.aload_n 0, 1) := by decide +kernel
theorem d_DL_join_101 : decode b_DL_join 101 = .ok (.new 49, 3) := by decide +kernel
theorem d_DL_join_104 : decode b_DL_join 104 = .ok (.dup, 1) := by decide +kernel
theorem d_DL_join_105 : decode b_DL_join 105 = .ok (.iload_n 1, 1) := by decide +kernel
theorem d_DL_join_106 : decode b_DL_join 106 = .ok (.aload 4, 2) := by decide +kernel
theorem d_DL_join_108 : decode b_DL_join 108 = .ok (.iload_n 3, 1) := by decide +kernel
theorem d_DL_join_109 : decode b_DL_join 109 = .ok (.invokespecial 59, 3) := by decide +kernel
theorem d_DL_join_112 : decode b_DL_join 112 = .ok (.invokevirtual 45, 3) := by decide +kernel
theorem d_DL_join_115 : decode b_DL_join 115 = .ok (.ireturn, 1) := by decide +kernel
theorem d_DL_layer_0 : decode b_DL_layer 0 = .ok (.aload_n 0, 1) := by decide +kernel
theorem d_DL_layer_1 : decode b_DL_layer 1 = .ok (.getfield 33, 3) := by decide +kernel
theorem d_DL_layer_4 : decode b_DL_layer 4 = .ok (.ireturn, 1) := by decide +kernel
theorem d_DL_matches_0 : decode b_DL_matches 0 = .ok (.lload_n 1, 1) := by decide +kernel
theorem d_DL_matches_1 : decode b_DL_matches 1 = .ok (.lload_n 3, 1) := by decide +kernel
theorem d_DL_matches_2 : decode b_DL_matches 2 = .ok (.iload 5, 2) := by decide +kernel
theorem d_DL_matches_4 : decode b_DL_matches 4 = .ok (.aload_n 0, 1) := by decide +kernel
theorem d_DL_matches_5 : decode b_DL_matches 5 = .ok (.getfield 10, 3) := by decide +kernel
theorem d_DL_matches_8 : decode b_DL_matches 8 = .ok (.invokestatic 114, 3) := by decide +kernel
theorem d_DL_matches_11 : decode b_DL_matches 11 = .ok (.ireturn, 1) := by decide +kernel
theorem d_DL_mayStandIn_0 : decode b_DL_mayStandIn 0 = .ok (.iload_n 0, 1) := by decide +kernel
theorem d_DL_mayStandIn_1 : decode b_DL_mayStandIn 1 = .ok (.iconst 5, 1) := by decide +kernel
theorem d_DL_mayStandIn_2 : decode b_DL_mayStandIn 2 = .ok (.if_icmp .ne 10, 3) := by decide +kernel
theorem d_DL_mayStandIn_5 : decode b_DL_mayStandIn 5 = .ok (.iload_n 1, 1) := by decide +kernel
theorem d_DL_mayStandIn_6 : decode b_DL_mayStandIn 6 = .ok (.invokestatic 124, 3) := by decide +kernel
theorem d_DL_mayStandIn_9 : decode b_DL_mayStandIn 9 = .ok (.goto 13, 3) := by decide +kernel
theorem d_DL_mayStandIn_12 : decode b_DL_mayStandIn 12 = .ok (.iload_n 1, 1) := by decide +kernel
theorem d_DL_mayStandIn_13 : decode b_DL_mayStandIn 13 = .ok (.iconst (-1), 1) := by decide +kernel
theorem d_DL_mayStandIn_14 : decode b_DL_mayStandIn 14 = .ok (.if_icmp .ne 7, 3) := by decide +kernel
theorem d_DL_mayStandIn_17 : decode b_DL_mayStandIn 17 = .ok (.iconst 1, 1) := by decide +kernel
theorem d_DL_mayStandIn_18 : decode b_DL_mayStandIn 18 = .ok (.goto 4, 3) := by decide +kernel
theorem d_DL_mayStandIn_21 : decode b_DL_mayStandIn 21 = .ok (.iconst 0, 1) := by decide +kernel
theorem d_DL_mayStandIn_22 : decode b_DL_mayStandIn 22 = .ok (.ireturn, 1) := by decide +kernel
theorem d_DL_offer_0 : decode b_DL_offer 0 = .ok (.iload_n 1, 1) := by decide +kernel
theorem d_DL_offer_1 : decode b_DL_offer 1 = .ok (.invokestatic 36, 3) := by decide +kernel
theorem d_DL_offer_4 : decode b_DL_offer 4 = .ok (.ifCond .ne 6, 3) := by decide +kernel
theorem d_DL_offer_7 : decode b_DL_offer 7 = .ok (.bipush (-2), 2) := by decide +kernel
theorem d_DL_offer_9 : decode b_DL_offer 9 = .ok (.ireturn, 1) := by decide +kernel
theorem d_DL_offer_10 : decode b_DL_offer 10 = .ok (.aload_n 0, 1) := by decide +kernel
theorem d_DL_offer_11 : decode b_DL_offer 11 = .ok (.getfield 10, 3) := by decide +kernel
theorem d_DL_offer_14 : decode b_DL_offer 14 = .ok (.iload_n 1, 1) := by decide +kernel
theorem d_DL_offer_15 : decode b_DL_offer 15 = .ok (.invokevirtual 89, 3) := by decide +kernel
theorem d_DL_offer_18 : decode b_DL_offer 18 = .ok (.ifCond .eq 8, 3) := by decide +kernel
theorem d_DL_offer_21 : decode b_DL_offer 21 = .ok (.bipush (-3), 2) := by decide +kernel
theorem d_DL_offer_23 : decode b_DL_offer 23 = .ok (.goto 12, 3) := by decide +kernel
theorem d_DL_offer_26 : decode b_DL_offer 26 = .ok (.aload_n 0, 1) := by decide +kernel
theorem d_DL_offer_27 : decode b_DL_offer 27 = .ok (.getfield 10, 3) := by decide +kernel
theorem d_DL_offer_30 : decode b_DL_offer 30 = .ok (.iload_n 1, 1) := by decide +kernel
theorem d_DL_offer_31 : decode b_DL_offer 31 = .ok (.lload_n 2, 1) := by decide +kernel
theorem d_DL_offer_32 : decode b_DL_offer 32 = .ok (.invokevirtual 91, 3) := by decide +kernel
theorem d_DL_offer_35 : decode b_DL_offer 35 = .ok (.ireturn, 1) := by decide +kernel
theorem d_DL_open_0 : decode b_DL_open 0 = .ok (.iload_n 1, 1) := by decide +kernel
theorem d_DL_open_1 : decode b_DL_open 1 = .ok (.invokestatic 62, 3) := by decide +kernel
theorem d_DL_open_4 : decode b_DL_open 4 = .ok (.ifCond .eq 15, 3) := by decide +kernel
theorem d_DL_open_7 : decode b_DL_open 7 = .ok (.aload_n 0, 1) := by decide +kernel
theorem d_DL_open_8 : decode b_DL_open 8 = .ok (.getfield 24, 3) := by decide +kernel
theorem d_DL_open_11 : decode b_DL_open 11 = .ok (.iload_n 1, 1) := by decide +kernel
theorem d_DL_open_12 : decode b_DL_open 12 = .ok (.aaload, 1) := by decide +kernel
theorem d_DL_open_13 : decode b_DL_open 13 = .ok (.getfield 79, 3) := by decide +kernel
theorem d_DL_open_16 : decode b_DL_open 16 = .ok (.ifCond .eq 5, 3) := by decide +kernel
theorem d_DL_open_19 : decode b_DL_open 19 = .ok (.iconst 0, 1) := by decide +kernel
theorem d_DL_open_20 : decode b_DL_open 20 = .ok (.ireturn, 1) := by decide +kernel
theorem d_DL_open_21 : decode b_DL_open 21 = .ok (.aload_n 0, 1) := by decide +kernel
theorem d_DL_open_22 : decode b_DL_open 22 = .ok (.getfield 24, 3) := by decide +kernel
theorem d_DL_open_25 : decode b_DL_open 25 = .ok (.iload_n 1, 1) := by decide +kernel
theorem d_DL_open_26 : decode b_DL_open 26 = .ok (.aaload, 1) := by decide +kernel
theorem d_DL_open_27 : decode b_DL_open 27 = .ok (.iconst 1, 1) := by decide +kernel
theorem d_DL_open_28 : decode b_DL_open 28 = .ok (.putfield 79, 3) := by decide +kernel
theorem d_DL_open_31 : decode b_DL_open 31 = .ok (.iconst 1, 1) := by decide +kernel
theorem d_DL_open_32 : decode b_DL_open 32 = .ok (.ireturn, 1) := by decide +kernel
theorem d_DL_pile_0 : decode b_DL_pile 0 = .ok (.aload_n 0, 1) := by decide +kernel
theorem d_DL_pile_1 : decode b_DL_pile 1 = .ok (.getfield 29, 3) := by decide +kernel
theorem d_DL_pile_4 : decode b_DL_pile 4 = .ok (.ireturn, 1) := by decide +kernel
theorem d_DL_pop_0 : decode b_DL_pop 0 = .ok (.aload_n 0, 1) := by decide +kernel
theorem d_DL_pop_1 : decode b_DL_pop 1 = .ok (.getfield 29, 3) := by decide +kernel
theorem d_DL_pop_4 : decode b_DL_pop 4 = .ok (.ifCond .ne 5, 3) := by decide +kernel
theorem d_DL_pop_7 : decode b_DL_pop 7 = .ok (.aconst_null, 1) := by decide +kernel
theorem d_DL_pop_8 : decode b_DL_pop 8 = .ok (.areturn, 1) := by decide +kernel
theorem d_DL_pop_9 : decode b_DL_pop 9 = .ok (.aload_n 0, 1) := by decide +kernel
theorem d_DL_pop_10 : decode b_DL_pop 10 = .ok (.dup, 1) := by decide +kernel
theorem d_DL_pop_11 : decode b_DL_pop 11 = .ok (.getfield 29, 3) := by decide +kernel
theorem d_DL_pop_14 : decode b_DL_pop 14 = .ok (.iconst 1, 1) := by decide +kernel
theorem d_DL_pop_15 : decode b_DL_pop 15 = .ok (.isub, 1) := by decide +kernel
theorem d_DL_pop_16 : decode b_DL_pop 16 = .ok (.putfield 29, 3) := by decide +kernel
theorem d_DL_pop_19 : decode b_DL_pop 19 = .ok (.aload_n 0, 1) := by decide +kernel
theorem d_DL_pop_20 : decode b_DL_pop 20 = .ok (.getfield 18, 3) := by decide +kernel
theorem d_DL_pop_23 : decode b_DL_pop 23 = .ok (.aload_n 0, 1) := by decide +kernel
theorem d_DL_pop_24 : decode b_DL_pop 24 = .ok (.getfield 29, 3) := by decide +kernel
theorem d_DL_pop_27 : decode b_DL_pop 27 = .ok (.aaload, 1) := by decide +kernel
theorem d_DL_pop_28 : decode b_DL_pop 28 = .ok (.astore_n 1, 1) := by decide +kernel
theorem d_DL_pop_29 : decode b_DL_pop 29 = .ok (.aload_n 0, 1) := by decide +kernel
theorem d_DL_pop_30 : decode b_DL_pop 30 = .ok (.getfield 18, 3) := by decide +kernel
theorem d_DL_pop_33 : decode b_DL_pop 33 = .ok (.aload_n 0, 1) := by decide +kernel
theorem d_DL_pop_34 : decode b_DL_pop 34 = .ok (.getfield 29, 3) := by decide +kernel
theorem d_DL_pop_37 : decode b_DL_pop 37 = .ok (.aconst_null, 1) := by decide +kernel
theorem d_DL_pop_38 : decode b_DL_pop 38 = .ok (.aastore, 1) := by decide +kernel
theorem d_DL_pop_39 : decode b_DL_pop 39 = .ok (.aload_n 1, 1) := by decide +kernel
theorem d_DL_pop_40 : decode b_DL_pop 40 = .ok (.areturn, 1) := by decide +kernel
theorem d_DL_push_0 : decode b_DL_push 0 = .ok (.aload_n 0, 1) := by decide +kernel
theorem d_DL_push_1 : decode b_DL_push 1 = .ok (.getfield 29, 3) := by decide +kernel
theorem d_DL_push_4 : decode b_DL_push 4 = .ok (.bipush 8, 2) := by decide +kernel
theorem d_DL_push_6 : decode b_DL_push 6 = .ok (.if_icmp .ge 23, 3) := by decide +kernel
theorem d_DL_push_9 : decode b_DL_push 9 = .ok (.aload_n 0, 1) := by decide +kernel
theorem d_DL_push_10 : decode b_DL_push 10 = .ok (.getfield 18, 3) := by decide +kernel
theorem d_DL_push_13 : decode b_DL_push 13 = .ok (.aload_n 0, 1) := by decide +kernel
theorem d_DL_push_14 : decode b_DL_push 14 = .ok (.getfield 29, 3) := by decide +kernel
theorem d_DL_push_17 : decode b_DL_push 17 = .ok (.aload_n 1, 1) := by decide +kernel
theorem d_DL_push_18 : decode b_DL_push 18 = .ok (.aastore, 1) := by decide +kernel
theorem d_DL_push_19 : decode b_DL_push 19 = .ok (.aload_n 0, 1) := by decide +kernel
theorem d_DL_push_20 : decode b_DL_push 20 = .ok (.dup, 1) := by decide +kernel
theorem d_DL_push_21 : decode b_DL_push 21 = .ok (.getfield 29, 3) := by decide +kernel
theorem d_DL_push_24 : decode b_DL_push 24 = .ok (.iconst 1, 1) := by decide +kernel
theorem d_DL_push_25 : decode b_DL_push 25 = .ok (.iadd, 1) := by decide +kernel
theorem d_DL_push_26 : decode b_DL_push 26 = .ok (.putfield 29, 3) := by decide +kernel
theorem d_DL_push_29 : decode b_DL_push 29 = .ok (.aload_n 0, 1) := by decide +kernel
theorem d_DL_push_30 : decode b_DL_push 30 = .ok (.getfield 29, 3) := by decide +kernel
theorem d_DL_push_33 : decode b_DL_push 33 = .ok (.ireturn, 1) := by decide +kernel
theorem d_DL_settle_0 : decode b_DL_settle 0 = .ok (.aload_n 0, 1) := by decide +kernel
theorem d_DL_settle_1 : decode b_DL_settle 1 = .ok (.iload_n 2, 1) := by decide +kernel
theorem d_DL_settle_2 : decode b_DL_settle 2 = .ok (.putfield 33, 3) := by decide +kernel
theorem d_DL_settle_5 : decode b_DL_settle 5 = .ok (.iload_n 1, 1) := by decide +kernel
theorem d_DL_settle_6 : decode b_DL_settle 6 = .ok (.ireturn, 1) := by decide +kernel
theorem d_DL_state_0 : decode b_DL_state 0 = .ok (.iload_n 1, 1) := by decide +kernel
theorem d_DL_state_1 : decode b_DL_state 1 = .ok (.invokestatic 62, 3) := by decide +kernel
theorem d_DL_state_4 : decode b_DL_state 4 = .ok (.ifCond .eq 22, 3) := by decide +kernel
theorem d_DL_state_7 : decode b_DL_state 7 = .ok (.iload_n 2, 1) := by decide +kernel
theorem d_DL_state_8 : decode b_DL_state 8 = .ok (.ifCond .lt 18, 3) := by decide +kernel
theorem d_DL_state_11 : decode b_DL_state 11 = .ok (.iload_n 2, 1) := by decide +kernel
theorem d_DL_state_12 : decode b_DL_state 12 = .ok (.bipush 15, 2) := by decide +kernel
theorem d_DL_state_14 : decode b_DL_state 14 = .ok (.if_icmp .gt 12, 3) := by decide +kernel
theorem d_DL_state_17 : decode b_DL_state 17 = .ok (.iload_n 1, 1) := by decide +kernel
theorem d_DL_state_18 : decode b_DL_state 18 = .ok (.iload 7, 2) := by decide +kernel
theorem d_DL_state_20 : decode b_DL_state 20 = .ok (.invokestatic 67, 3) := by decide +kernel
theorem d_DL_state_23 : decode b_DL_state 23 = .ok (.ifCond .ne 6, 3) := by decide +kernel
theorem d_DL_state_26 : decode b_DL_state 26 = .ok (.bipush (-2), 2) := by decide +kernel
theorem d_DL_state_28 : decode b_DL_state 28 = .ok (.ireturn, 1) := by decide +kernel
theorem d_DL_state_29 : decode b_DL_state 29 = .ok (.iload_n 2, 1) := by decide +kernel
theorem d_DL_state_30 : decode b_DL_state 30 = .ok (.bipush 8, 2) := by decide +kernel
theorem d_DL_state_32 : decode b_DL_state 32 = .ok (.iand, 1) := by decide +kernel
theorem d_DL_state_33 : decode b_DL_state 33 = .ok (.ifCond .eq 7, 3) := by decide +kernel
theorem d_DL_state_36 : decode b_DL_state 36 = .ok (.iconst 1, 1) := by decide +kernel
theorem d_DL_state_37 : decode b_DL_state 37 = .ok (.goto 4, 3) := by decide +kernel
theorem d_DL_state_40 : decode b_DL_state 40 = .ok (.iconst 0, 1) := by decide +kernel
theorem d_DL_state_41 : decode b_DL_state 41 = .ok (.istore 8, 2) := by decide +kernel
theorem d_DL_state_43 : decode b_DL_state 43 = .ok (.iload 8, 2) := by decide +kernel
theorem d_DL_state_45 : decode b_DL_state 45 = .ok (.ifCond .eq 13, 3) := by decide +kernel
theorem d_DL_state_48 : decode b_DL_state 48 = .ok (.aload_n 0, 1) := by decide +kernel
theorem d_DL_state_49 : decode b_DL_state 49 = .ok (.getfield 29, 3) := by decide +kernel
theorem d_DL_state_52 : decode b_DL_state 52 = .ok (.ifCond .ne 6, 3) := by decide +kernel
theorem d_DL_state_55 : decode b_DL_state 55 = .ok (.bipush (-2), 2) := by decide +kernel
theorem d_DL_state_57 : decode b_DL_state 57 = .ok (.ireturn, 1) := by decide +kernel
theorem d_DL_state_58 : decode b_DL_state 58 = .ok (.aload_n 0, 1) := by decide +kernel
theorem d_DL_state_59 : decode b_DL_state 59 = .ok (.getfield 24, 3) := by decide +kernel
theorem d_DL_state_62 : decode b_DL_state 62 = .ok (.iload_n 1, 1) := by decide +kernel
theorem d_DL_state_63 : decode b_DL_state 63 = .ok (.aaload, 1) := by decide +kernel
theorem d_DL_state_64 : decode b_DL_state 64 = .ok (.invokevirtual 71, 3) := by decide +kernel
theorem d_DL_state_67 : decode b_DL_state 67 = .ok (.ifCond .eq 6, 3) := by decide +kernel
theorem d_DL_state_70 : decode b_DL_state 70 = .ok (.bipush (-3), 2) := by decide +kernel
theorem d_DL_state_72 : decode b_DL_state 72 = .ok (.ireturn, 1) := by decide +kernel
theorem d_DL_state_73 : decode b_DL_state 73 = .ok (.iload 8, 2) := by decide +kernel
theorem d_DL_state_75 : decode b_DL_state 75 = .ok (.ifCond .eq 10, 3) := by decide +kernel
theorem d_DL_state_78 : decode b_DL_state 78 = .ok (.aload_n 0, 1) := by decide +kernel
theorem d_DL_state_79 : decode b_DL_state 79 = .ok (.invokevirtual 55, 3) := by decide +kernel
theorem d_DL_state_82 : decode b_DL_state 82 = .ok (.goto 4, 3) := by decide +kernel
theorem d_DL_state_85 : decode b_DL_state 85 = .ok (.aconst_null, 1) := by decide +kernel
theorem d_DL_state_86 : decode b_DL_state 86 = .ok (.astore 9, 2) := by decide +kernel
theorem d_DL_state_88 : decode b_DL_state 88 = .ok (.aload_n 0, 1) := by decide +kernel
theorem d_DL_state_89 : decode b_DL_state 89 = .ok (.getfield 24, 3) := by decide +kernel
theorem d_DL_state_92 : decode b_DL_state 92 = .ok (.iload_n 1, 1) := by decide +kernel
theorem d_DL_state_93 : decode b_DL_state 93 = .ok (.aaload, 1) := by decide +kernel
theorem d_DL_state_94 : decode b_DL_state 94 = .ok (.iload_n 2, 1) := by decide +kernel
theorem d_DL_state_95 : decode b_DL_state 95 = .ok (.lload_n 3, 1) := by decide +kernel
theorem d_DL_state_96 : decode b_DL_state 96 = .ok (.lload 5, 2) := by decide +kernel
theorem d_DL_state_98 : decode b_DL_state 98 = .ok (.iload 7, 2) := by decide +kernel
theorem d_DL_state_100 : decode b_DL_state 100 = .ok (.aload 9, 2) := by decide +kernel
theorem d_DL_state_102 : decode b_DL_state 102 = .ok (.invokevirtual 75, 3) := by decide +kernel
theorem d_DL_state_105 : decode b_DL_state 105 = .ok (.ireturn, 1) := by decide +kernel
theorem d_DL_statements_0 : decode b_DL_statements 0 = .ok (.iload_n 1, 1) := by decide +kernel
theorem d_DL_statements_1 : decode b_DL_statements 1 = .ok (.invokestatic 62, 3) := by decide +kernel
theorem d_DL_statements_4 : decode b_DL_statements 4 = .ok (.ifCond .ne 6, 3) := by decide +kernel
theorem d_DL_statements_7 : decode b_DL_statements 7 = .ok (.bipush (-2), 2) := by decide +kernel
theorem d_DL_statements_9 : decode b_DL_statements 9 = .ok (.ireturn, 1) := by decide +kernel
theorem d_DL_statements_10 : decode b_DL_statements 10 = .ok (.aload_n 0, 1) := by decide +kernel
theorem d_DL_statements_11 : decode b_DL_statements 11 = .ok (.getfield 24, 3) := by decide +kernel
theorem d_DL_statements_14 : decode b_DL_statements 14 = .ok (.iload_n 1, 1) := by decide +kernel
theorem d_DL_statements_15 : decode b_DL_statements 15 = .ok (.aaload, 1) := by decide +kernel
theorem d_DL_statements_16 : decode b_DL_statements 16 = .ok (.getfield 79, 3) := by decide +kernel
theorem d_DL_statements_19 : decode b_DL_statements 19 = .ok (.ifCond .eq 15, 3) := by decide +kernel
theorem d_DL_statements_22 : decode b_DL_statements 22 = .ok (.aload_n 0, 1) := by decide +kernel
theorem d_DL_statements_23 : decode b_DL_statements 23 = .ok (.getfield 24, 3) := by decide +kernel
theorem d_DL_statements_26 : decode b_DL_statements 26 = .ok (.iload_n 1, 1) := by decide +kernel
theorem d_DL_statements_27 : decode b_DL_statements 27 = .ok (.aaload, 1) := by decide +kernel
theorem d_DL_statements_28 : decode b_DL_statements 28 = .ok (.getfield 86, 3) := by decide +kernel
theorem d_DL_statements_31 : decode b_DL_statements 31 = .ok (.goto 4, 3) := by decide +kernel
theorem d_DL_statements_34 : decode b_DL_statements 34 = .ok (.iconst (-1), 1) := by decide +kernel
theorem d_DL_statements_35 : decode b_DL_statements 35 = .ok (.ireturn, 1) := by decide +kernel
theorem d_DL_test_0 : decode b_DL_test 0 = .ok (.iload_n 1, 1) := by decide +kernel
theorem d_DL_test_1 : decode b_DL_test 1 = .ok (.ifCond .lt 28, 3) := by decide +kernel
theorem d_DL_test_4 : decode b_DL_test 4 = .ok (.iload_n 1, 1) := by decide +kernel
theorem d_DL_test_5 : decode b_DL_test 5 = .ok (.bipush 8, 2) := by decide +kernel
theorem d_DL_test_7 : decode b_DL_test 7 = .ok (.if_icmp .ge 22, 3) := by decide +kernel
theorem d_DL_test_10 : decode b_DL_test 10 = .ok (.iload_n 2, 1) := by decide +kernel
theorem d_DL_test_11 : decode b_DL_test 11 = .ok (.invokestatic 36, 3) := by decide +kernel
theorem d_DL_test_14 : decode b_DL_test 14 = .ok (.ifCond .eq 15, 3) := by decide +kernel
theorem d_DL_test_17 : decode b_DL_test 17 = .ok (.iload 5, 2) := by decide +kernel
theorem d_DL_test_19 : decode b_DL_test 19 = .ok (.ifCond .lt 10, 3) := by decide +kernel
theorem d_DL_test_22 : decode b_DL_test 22 = .ok (.iload 5, 2) := by decide +kernel
theorem d_DL_test_24 : decode b_DL_test 24 = .ok (.bipush 7, 2) := by decide +kernel
theorem d_DL_test_26 : decode b_DL_test 26 = .ok (.if_icmp .le 6, 3) := by decide +kernel
theorem d_DL_test_29 : decode b_DL_test 29 = .ok (.bipush (-2), 2) := by decide +kernel
theorem d_DL_test_31 : decode b_DL_test 31 = .ok (.ireturn, 1) := by decide +kernel
theorem d_DL_test_32 : decode b_DL_test 32 = .ok (.aload_n 0, 1) := by decide +kernel
theorem d_DL_test_33 : decode b_DL_test 33 = .ok (.getfield 29, 3) := by decide +kernel
theorem d_DL_test_36 : decode b_DL_test 36 = .ok (.bipush 8, 2) := by decide +kernel
theorem d_DL_test_38 : decode b_DL_test 38 = .ok (.if_icmp .lt 6, 3) := by decide +kernel
theorem d_DL_test_41 : decode b_DL_test 41 = .ok (.bipush (-3), 2) := by decide +kernel
theorem d_DL_test_43 : decode b_DL_test 43 = .ok (.ireturn, 1) := by decide +kernel
theorem d_DL_test_44 : decode b_DL_test 44 = .ok (.aload_n 0, 1) := by decide +kernel
theorem d_DL_test_45 : decode b_DL_test 45 = .ok (.new 40, 3) := by decide +kernel
theorem d_DL_test_48 : decode b_DL_test 48 = .ok (.dup, 1) := by decide +kernel
theorem d_DL_test_49 : decode b_DL_test 49 = .ok (.iload_n 1, 1) := by decide +kernel
theorem d_DL_test_50 : decode b_DL_test 50 = .ok (.iload_n 2, 1) := by decide +kernel
theorem d_DL_test_51 : decode b_DL_test 51 = .ok (.lload_n 3, 1) := by decide +kernel
theorem d_DL_test_52 : decode b_DL_test 52 = .ok (.iload 5, 2) := by decide +kernel
theorem d_DL_test_54 : decode b_DL_test 54 = .ok (.invokespecial 42, 3) := by decide +kernel
theorem d_DL_test_57 : decode b_DL_test 57 = .ok (.invokevirtual 45, 3) := by decide +kernel
theorem d_DL_test_60 : decode b_DL_test 60 = .ok (.ireturn, 1) := by decide +kernel
theorem d_Joined_init_0 : decode b_Joined_init 0 = .ok (.aload_n 0, 1) := by decide +kernel
theorem d_Joined_init_1 : decode b_Joined_init 1 = .ok (.iload_n 3, 1) := by decide +kernel
theorem d_Joined_init_2 : decode b_Joined_init 2 = .ok (.invokespecial 1, 3) := by decide +kernel
theorem d_Joined_init_5 : decode b_Joined_init 5 = .ok (.aload_n 0, 1) := by decide +kernel
theorem d_Joined_init_6 : decode b_Joined_init 6 = .ok (.iload_n 1, 1) := by decide +kernel
theorem d_Joined_init_7 : decode b_Joined_init 7 = .ok (.putfield 7, 3) := by decide +kernel
theorem d_Joined_init_10 : decode b_Joined_init 10 = .ok (.aload_n 0, 1) := by decide +kernel
theorem d_Joined_init_11 : decode b_Joined_init 11 = .ok (.aload_n 2, 1) := by decide +kernel
theorem d_Joined_init_12 : decode b_Joined_init 12 = .ok (.putfield 13, 3) := by decide +kernel
theorem d_Joined_init_15 : decode b_Joined_init 15 = .ok (.return_, 1) := by decide +kernel
theorem d_Joined_isMet_0 : decode b_Joined_isMet 0 = .ok (.aload_n 0, 1) := by decide +kernel
theorem d_Joined_isMet_1 : decode b_Joined_isMet 1 = .ok (.getfield 7, 3) := by decide +kernel
theorem d_Joined_isMet_4 : decode b_Joined_isMet 4 = .ok (.ifCond .eq 7, 3) := by decide +kernel
theorem d_Joined_isMet_7 : decode b_Joined_isMet 7 = .ok (.iconst 1, 1) := by decide +kernel
theorem d_Joined_isMet_8 : decode b_Joined_isMet 8 = .ok (.goto 4, 3) := by decide +kernel
theorem d_Joined_isMet_11 : decode b_Joined_isMet 11 = .ok (.iconst 0, 1) := by decide +kernel
theorem d_Joined_isMet_12 : decode b_Joined_isMet 12 = .ok (.istore_n 2, 1) := by decide +kernel
theorem d_Joined_isMet_13 : decode b_Joined_isMet 13 = .ok (.iconst 0, 1) := by decide +kernel
theorem d_Joined_isMet_14 : decode b_Joined_isMet 14 = .ok (.istore_n 3, 1) := by decide +kernel
theorem d_Joined_isMet_15 : decode b_Joined_isMet 15 = .ok (.iload_n 3, 1) := by decide +kernel
theorem d_Joined_isMet_16 : decode b_Joined_isMet 16 = .ok (.aload_n 0, 1) := by decide +kernel
theorem d_Joined_isMet_17 : decode b_Joined_isMet 17 = .ok (.getfield 13, 3) := by decide +kernel
theorem d_Joined_isMet_20 : decode b_Joined_isMet 20 = .ok (.arraylength, 1) := by decide +kernel
theorem d_Joined_isMet_21 : decode b_Joined_isMet 21 = .ok (.if_icmp .ge 46, 3) := by decide +kernel
theorem d_Joined_isMet_24 : decode b_Joined_isMet 24 = .ok (.aload_n 0, 1) := by decide +kernel
theorem d_Joined_isMet_25 : decode b_Joined_isMet 25 = .ok (.getfield 13, 3) := by decide +kernel
theorem d_Joined_isMet_28 : decode b_Joined_isMet 28 = .ok (.iload_n 3, 1) := by decide +kernel
theorem d_Joined_isMet_29 : decode b_Joined_isMet 29 = .ok (.aaload, 1) := by decide +kernel
theorem d_Joined_isMet_30 : decode b_Joined_isMet 30 = .ok (.astore 4, 2) := by decide +kernel
theorem d_Joined_isMet_32 : decode b_Joined_isMet 32 = .ok (.aload 4, 2) := by decide +kernel
theorem d_Joined_isMet_34 : decode b_Joined_isMet 34 = .ok (.ifnull 27, 3) := by decide +kernel
theorem d_Joined_isMet_37 : decode b_Joined_isMet 37 = .ok (.aload 4, 2) := by decide +kernel
theorem d_Joined_isMet_39 : decode b_Joined_isMet 39 = .ok (.aload_n 1, 1) := by decide +kernel
theorem d_Joined_isMet_40 : decode b_Joined_isMet 40 = .ok (.invokevirtual 17, 3) := by decide +kernel
theorem d_Joined_isMet_43 : decode b_Joined_isMet 43 = .ok (.iload_n 2, 1) := by decide +kernel
theorem d_Joined_isMet_44 : decode b_Joined_isMet 44 = .ok (.if_icmp .ne 17, 3) := by decide +kernel
theorem d_Joined_isMet_47 : decode b_Joined_isMet 47 = .ok (.aload_n 0, 1) := by decide +kernel
theorem d_Joined_isMet_48 : decode b_Joined_isMet 48 = .ok (.getfield 7, 3) := by decide +kernel
theorem d_Joined_isMet_51 : decode b_Joined_isMet 51 = .ok (.iconst 1, 1) := by decide +kernel
theorem d_Joined_isMet_52 : decode b_Joined_isMet 52 = .ok (.if_icmp .ne 7, 3) := by decide +kernel
theorem d_Joined_isMet_55 : decode b_Joined_isMet 55 = .ok (.iconst 1, 1) := by decide +kernel
theorem d_Joined_isMet_56 : decode b_Joined_isMet 56 = .ok (.goto 4, 3) := by decide +kernel
theorem d_Joined_isMet_59 : decode b_Joined_isMet 59 = .ok (.iconst 0, 1) := by decide +kernel
theorem d_Joined_isMet_60 : decode b_Joined_isMet 60 = .ok (.ireturn, 1) := by decide +kernel
theorem d_Joined_isMet_61 : decode b_Joined_isMet 61 = .ok (.iinc 3 1, 3) := by decide +kernel
theorem d_Joined_isMet_64 : decode b_Joined_isMet 64 = .ok (.goto (-49), 3) := by decide +kernel
theorem d_Joined_isMet_67 : decode b_Joined_isMet 67 = .ok (.aload_n 0, 1) := by decide +kernel
theorem d_Joined_isMet_68 : decode b_Joined_isMet 68 = .ok (.getfield 7, 3) := by decide +kernel
theorem d_Joined_isMet_71 : decode b_Joined_isMet 71 = .ok (.iconst 1, 1) := by decide +kernel
theorem d_Joined_isMet_72 : decode b_Joined_isMet 72 = .ok (.if_icmp .eq 7, 3) := by decide +kernel
theorem d_Joined_isMet_75 : decode b_Joined_isMet 75 = .ok (.iconst 1, 1) := by decide +kernel
theorem d_Joined_isMet_76 : decode b_Joined_isMet 76 = .ok (.goto 4, 3) := by decide +kernel
theorem d_Joined_isMet_79 : decode b_Joined_isMet 79 = .ok (.iconst 0, 1) := by decide +kernel
theorem d_Joined_isMet_80 : decode b_Joined_isMet 80 = .ok (.ireturn, 1) := by decide +kernel
theorem d_Layer_allows_0 : decode b_Layer_allows 0 = .ok (.aload_n 0, 1) := by decide +kernel
theorem d_Layer_allows_1 : decode b_Layer_allows 1 = .ok (.iconst 0, 1) := by decide +kernel
theorem d_Layer_allows_2 : decode b_Layer_allows 2 = .ok (.invokevirtual 37, 3) := by decide +kernel
theorem d_Layer_allows_5 : decode b_Layer_allows 5 = .ok (.ireturn, 1) := by decide +kernel
theorem d_Layer_allowsByName_0 : decode b_Layer_allowsByName 0 = .ok (.iconst 0, 1) := by decide +kernel
theorem d_Layer_allowsByName_1 : decode b_Layer_allowsByName 1 = .ok (.istore_n 2, 1) := by decide +kernel
theorem d_Layer_allowsByName_2 : decode b_Layer_allowsByName 2 = .ok (.iload_n 2, 1) := by decide +kernel
theorem d_Layer_allowsByName_3 : decode b_Layer_allowsByName 3 = .ok (.aload_n 0, 1) := by decide +kernel
theorem d_Layer_allowsByName_4 : decode b_Layer_allowsByName 4 = .ok (.getfield 18, 3) := by decide +kernel
theorem d_Layer_allowsByName_7 : decode b_Layer_allowsByName 7 = .ok (.if_icmp .ge 50, 3) := by decide +kernel
theorem d_Layer_allowsByName_10 : decode b_Layer_allowsByName 10 = .ok (.iload_n 2, 1) := by decide +kernel
theorem d_Layer_allowsByName_11 : decode b_Layer_allowsByName 11 = .ok (.bipush 6, 2) := by decide +kernel
theorem d_Layer_allowsByName_13 : decode b_Layer_allowsByName 13 = .ok (.if_icmp .ge 44, 3) := by decide +kernel
theorem d_Layer_allowsByName_16 : decode b_Layer_allowsByName 16 = .ok (.aload_n 0, 1) := by decide +kernel
theorem d_Layer_allowsByName_17 : decode b_Layer_allowsByName 17 = .ok (.iload_n 2, 1) := by decide +kernel
theorem d_Layer_allowsByName_18 : decode b_Layer_allowsByName 18 = .ok (.invokevirtual 45, 3) := by decide +kernel
theorem d_Layer_allowsByName_21 : decode b_Layer_allowsByName 21 = .ok (.ifCond .eq 30, 3) := by decide +kernel
theorem d_Layer_allowsByName_24 : decode b_Layer_allowsByName 24 = .ok (.aload_n 0, 1) := by decide +kernel
theorem d_Layer_allowsByName_25 : decode b_Layer_allowsByName 25 = .ok (.getfield 13, 3) := by decide +kernel
theorem d_Layer_allowsByName_28 : decode b_Layer_allowsByName 28 = .ok (.iload_n 2, 1) := by decide +kernel
theorem d_Layer_allowsByName_29 : decode b_Layer_allowsByName 29 = .ok (.aaload, 1) := by decide +kernel
theorem d_Layer_allowsByName_30 : decode b_Layer_allowsByName 30 = .ok (.invokevirtual 49, 3) := by decide +kernel
theorem d_Layer_allowsByName_33 : decode b_Layer_allowsByName 33 = .ok (.ifCond .ne 18, 3) := by decide +kernel
theorem d_Layer_allowsByName_36 : decode b_Layer_allowsByName 36 = .ok (.aload_n 0, 1) := by decide +kernel
theorem d_Layer_allowsByName_37 : decode b_Layer_allowsByName 37 = .ok (.getfield 13, 3) := by decide +kernel
theorem d_Layer_allowsByName_40 : decode b_Layer_allowsByName 40 = .ok (.iload_n 2, 1) := by decide +kernel
theorem d_Layer_allowsByName_41 : decode b_Layer_allowsByName 41 = .ok (.aaload, 1) := by decide +kernel
theorem d_Layer_allowsByName_42 : decode b_Layer_allowsByName 42 = .ok (.iload_n 1, 1) := by decide +kernel
theorem d_Layer_allowsByName_43 : decode b_Layer_allowsByName 43 = .ok (.invokevirtual 52, 3) := by decide +kernel
theorem d_Layer_allowsByName_46 : decode b_Layer_allowsByName 46 = .ok (.ifCond .eq 5, 3) := by decide +kernel
theorem d_Layer_allowsByName_49 : decode b_Layer_allowsByName 49 = .ok (.iconst 1, 1) := by decide +kernel
theorem d_Layer_allowsByName_50 : decode b_Layer_allowsByName 50 = .ok (.ireturn, 1) := by decide +kernel
theorem d_Layer_allowsByName_51 : decode b_Layer_allowsByName 51 = .ok (.iinc 2 1, 3) := by decide +kernel
theorem d_Layer_allowsByName_54 : decode b_Layer_allowsByName 54 = .ok (.goto (-52), 3) := by decide +kernel
theorem d_Layer_allowsByName_57 : decode b_Layer_allowsByName 57 = .ok (.iconst 0, 1) := by decide +kernel
theorem d_Layer_allowsByName_58 : decode b_Layer_allowsByName 58 = .ok (.ireturn, 1) := by decide +kernel
theorem d_Layer_append_0 : decode b_Layer_append 0 = .ok (.aload_n 0, 1) := by decide +kernel
theorem d_Layer_append_1 : decode b_Layer_append 1 = .ok (.getfield 18, 3) := by decide +kernel
theorem d_Layer_append_4 : decode b_Layer_append 4 = .ok (.bipush 6, 2) := by decide +kernel
theorem d_Layer_append_6 : decode b_Layer_append 6 = .ok (.if_icmp .lt 6, 3) := by decide +kernel
theorem d_Layer_append_9 : decode b_Layer_append 9 = .ok (.bipush (-3), 2) := by decide +kernel
theorem d_Layer_append_11 : decode b_Layer_append 11 = .ok (.ireturn, 1) := by decide +kernel
theorem d_Layer_append_12 : decode b_Layer_append 12 = .ok (.aload_n 0, 1) := by decide +kernel
theorem d_Layer_append_13 : decode b_Layer_append 13 = .ok (.getfield 13, 3) := by decide +kernel
theorem d_Layer_append_16 : decode b_Layer_append 16 = .ok (.aload_n 0, 1) := by decide +kernel
theorem d_Layer_append_17 : decode b_Layer_append 17 = .ok (.getfield 18, 3) := by decide +kernel
theorem d_Layer_append_20 : decode b_Layer_append 20 = .ok (.aaload, 1) := by decide +kernel
theorem d_Layer_append_21 : decode b_Layer_append 21 = .ok (.iload_n 1, 1) := by decide +kernel
theorem d_Layer_append_22 : decode b_Layer_append 22 = .ok (.lload_n 2, 1) := by decide +kernel
theorem d_Layer_append_23 : decode b_Layer_append 23 = .ok (.lload 4, 2) := by decide +kernel
theorem d_Layer_append_25 : decode b_Layer_append 25 = .ok (.iload 6, 2) := by decide +kernel
theorem d_Layer_append_27 : decode b_Layer_append 27 = .ok (.aload 7, 2) := by decide +kernel
theorem d_Layer_append_29 : decode b_Layer_append 29 = .ok (.invokevirtual 22, 3) := by decide +kernel
theorem d_Layer_append_32 : decode b_Layer_append 32 = .ok (.aload_n 0, 1) := by decide +kernel
theorem d_Layer_append_33 : decode b_Layer_append 33 = .ok (.iconst 1, 1) := by decide +kernel
theorem d_Layer_append_34 : decode b_Layer_append 34 = .ok (.putfield 26, 3) := by decide +kernel
theorem d_Layer_append_37 : decode b_Layer_append 37 = .ok (.aload_n 0, 1) := by decide +kernel
theorem d_Layer_append_38 : decode b_Layer_append 38 = .ok (.dup, 1) := by decide +kernel
theorem d_Layer_append_39 : decode b_Layer_append 39 = .ok (.getfield 18, 3) := by decide +kernel
theorem d_Layer_append_42 : decode b_Layer_append 42 = .ok (.iconst 1, 1) := by decide +kernel
theorem d_Layer_append_43 : decode b_Layer_append 43 = .ok (.iadd, 1) := by decide +kernel
theorem d_Layer_append_44 : decode b_Layer_append 44 = .ok (.putfield 18, 3) := by decide +kernel
theorem d_Layer_append_47 : decode b_Layer_append 47 = .ok (.aload_n 0, 1) := by decide +kernel
theorem d_Layer_append_48 : decode b_Layer_append 48 = .ok (.getfield 18, 3) := by decide +kernel
theorem d_Layer_append_51 : decode b_Layer_append 51 = .ok (.iconst 1, 1) := by decide +kernel
theorem d_Layer_append_52 : decode b_Layer_append 52 = .ok (.isub, 1) := by decide +kernel
theorem d_Layer_append_53 : decode b_Layer_append 53 = .ok (.ireturn, 1) := by decide +kernel
theorem d_Layer_bars_0 : decode b_Layer_bars 0 = .ok (.aload_n 0, 1) := by decide +kernel
theorem d_Layer_bars_1 : decode b_Layer_bars 1 = .ok (.getfield 26, 3) := by decide +kernel
theorem d_Layer_bars_4 : decode b_Layer_bars 4 = .ok (.ifCond .eq 14, 3) := by decide +kernel
theorem d_Layer_bars_7 : decode b_Layer_bars 7 = .ok (.aload_n 0, 1) := by decide +kernel
theorem d_Layer_bars_8 : decode b_Layer_bars 8 = .ok (.invokevirtual 41, 3) := by decide +kernel
theorem d_Layer_bars_11 : decode b_Layer_bars 11 = .ok (.ifCond .ne 7, 3) := by decide +kernel
theorem d_Layer_bars_14 : decode b_Layer_bars 14 = .ok (.iconst 1, 1) := by decide +kernel
theorem d_Layer_bars_15 : decode b_Layer_bars 15 = .ok (.goto 4, 3) := by decide +kernel
theorem d_Layer_bars_18 : decode b_Layer_bars 18 = .ok (.iconst 0, 1) := by decide +kernel
theorem d_Layer_bars_19 : decode b_Layer_bars 19 = .ok (.ireturn, 1) := by decide +kernel
theorem d_Layer_denies_0 : decode b_Layer_denies 0 = .ok (.aload_n 0, 1) := by decide +kernel
theorem d_Layer_denies_1 : decode b_Layer_denies 1 = .ok (.iconst 1, 1) := by decide +kernel
theorem d_Layer_denies_2 : decode b_Layer_denies 2 = .ok (.invokevirtual 37, 3) := by decide +kernel
theorem d_Layer_denies_5 : decode b_Layer_denies 5 = .ok (.ireturn, 1) := by decide +kernel
theorem d_Layer_empty_0 : decode b_Layer_empty 0 = .ok (.aload_n 0, 1) := by decide +kernel
theorem d_Layer_empty_1 : decode b_Layer_empty 1 = .ok (.iconst 0, 1) := by decide +kernel
theorem d_Layer_empty_2 : decode b_Layer_empty 2 = .ok (.putfield 18, 3) := by decide +kernel
theorem d_Layer_empty_5 : decode b_Layer_empty 5 = .ok (.aload_n 0, 1) := by decide +kernel
theorem d_Layer_empty_6 : decode b_Layer_empty 6 = .ok (.iconst 0, 1) := by decide +kernel
theorem d_Layer_empty_7 : decode b_Layer_empty 7 = .ok (.putfield 26, 3) := by decide +kernel
theorem d_Layer_empty_10 : decode b_Layer_empty 10 = .ok (.return_, 1) := by decide +kernel
theorem d_Layer_hasJudged_0 : decode b_Layer_hasJudged 0 = .ok (.iconst 0, 1) := by decide +kernel
theorem d_Layer_hasJudged_1 : decode b_Layer_hasJudged 1 = .ok (.istore_n 2, 1) := by decide +kernel
theorem d_Layer_hasJudged_2 : decode b_Layer_hasJudged 2 = .ok (.iload_n 2, 1) := by decide +kernel
theorem d_Layer_hasJudged_3 : decode b_Layer_hasJudged 3 = .ok (.aload_n 0, 1) := by decide +kernel
theorem d_Layer_hasJudged_4 : decode b_Layer_hasJudged 4 = .ok (.getfield 18, 3) := by decide +kernel
theorem d_Layer_hasJudged_7 : decode b_Layer_hasJudged 7 = .ok (.if_icmp .ge 38, 3) := by decide +kernel
theorem d_Layer_hasJudged_10 : decode b_Layer_hasJudged 10 = .ok (.iload_n 2, 1) := by decide +kernel
theorem d_Layer_hasJudged_11 : decode b_Layer_hasJudged 11 = .ok (.bipush 6, 2) := by decide +kernel
theorem d_Layer_hasJudged_13 : decode b_Layer_hasJudged 13 = .ok (.if_icmp .ge 32, 3) := by decide +kernel
theorem d_Layer_hasJudged_16 : decode b_Layer_hasJudged 16 = .ok (.aload_n 0, 1) := by decide +kernel
theorem d_Layer_hasJudged_17 : decode b_Layer_hasJudged 17 = .ok (.iload_n 2, 1) := by decide +kernel
theorem d_Layer_hasJudged_18 : decode b_Layer_hasJudged 18 = .ok (.invokevirtual 45, 3) := by decide +kernel
theorem d_Layer_hasJudged_21 : decode b_Layer_hasJudged 21 = .ok (.ifCond .eq 18, 3) := by decide +kernel
theorem d_Layer_hasJudged_24 : decode b_Layer_hasJudged 24 = .ok (.aload_n 0, 1) := by decide +kernel
theorem d_Layer_hasJudged_25 : decode b_Layer_hasJudged 25 = .ok (.getfield 13, 3) := by decide +kernel
theorem d_Layer_hasJudged_28 : decode b_Layer_hasJudged 28 = .ok (.iload_n 2, 1) := by decide +kernel
theorem d_Layer_hasJudged_29 : decode b_Layer_hasJudged 29 = .ok (.aaload, 1) := by decide +kernel
theorem d_Layer_hasJudged_30 : decode b_Layer_hasJudged 30 = .ok (.invokevirtual 49, 3) := by decide +kernel
theorem d_Layer_hasJudged_33 : decode b_Layer_hasJudged 33 = .ok (.iload_n 1, 1) := by decide +kernel
theorem d_Layer_hasJudged_34 : decode b_Layer_hasJudged 34 = .ok (.if_icmp .ne 5, 3) := by decide +kernel
theorem d_Layer_hasJudged_37 : decode b_Layer_hasJudged 37 = .ok (.iconst 1, 1) := by decide +kernel
theorem d_Layer_hasJudged_38 : decode b_Layer_hasJudged 38 = .ok (.ireturn, 1) := by decide +kernel
theorem d_Layer_hasJudged_39 : decode b_Layer_hasJudged 39 = .ok (.iinc 2 1, 3) := by decide +kernel
theorem d_Layer_hasJudged_42 : decode b_Layer_hasJudged 42 = .ok (.goto (-40), 3) := by decide +kernel
theorem d_Layer_hasJudged_45 : decode b_Layer_hasJudged 45 = .ok (.iconst 0, 1) := by decide +kernel
theorem d_Layer_hasJudged_46 : decode b_Layer_hasJudged 46 = .ok (.ireturn, 1) := by decide +kernel
theorem d_Layer_init_0 : decode b_Layer_init 0 = .ok (.aload_n 0, 1) := by decide +kernel
theorem d_Layer_init_1 : decode b_Layer_init 1 = .ok (.invokespecial 3, 3) := by decide +kernel
theorem d_Layer_init_4 : decode b_Layer_init 4 = .ok (.aload_n 0, 1) := by decide +kernel
theorem d_Layer_init_5 : decode b_Layer_init 5 = .ok (.bipush 6, 2) := by decide +kernel
theorem d_Layer_init_7 : decode b_Layer_init 7 = .ok (.anewarray 11, 3) := by decide +kernel
theorem d_Layer_init_10 : decode b_Layer_init 10 = .ok (.putfield 13, 3) := by decide +kernel
theorem d_Layer_init_13 : decode b_Layer_init 13 = .ok (.iconst 0, 1) := by decide +kernel
theorem d_Layer_init_14 : decode b_Layer_init 14 = .ok (.istore_n 1, 1) := by decide +kernel
theorem d_Layer_init_15 : decode b_Layer_init 15 = .ok (.iload_n 1, 1) := by decide +kernel
theorem d_Layer_init_16 : decode b_Layer_init 16 = .ok (.bipush 6, 2) := by decide +kernel
theorem d_Layer_init_18 : decode b_Layer_init 18 = .ok (.if_icmp .ge 22, 3) := by decide +kernel
theorem d_Layer_init_21 : decode b_Layer_init 21 = .ok (.aload_n 0, 1) := by decide +kernel
theorem d_Layer_init_22 : decode b_Layer_init 22 = .ok (.getfield 13, 3) := by decide +kernel
theorem d_Layer_init_25 : decode b_Layer_init 25 = .ok (.iload_n 1, 1) := by decide +kernel
theorem d_Layer_init_26 : decode b_Layer_init 26 = .ok (.new 11, 3) := by decide +kernel
theorem d_Layer_init_29 : decode b_Layer_init 29 = .ok (.dup, 1) := by decide +kernel
theorem d_Layer_init_30 : decode b_Layer_init 30 = .ok (.invokespecial 17, 3) := by decide +kernel
theorem d_Layer_init_33 : decode b_Layer_init 33 = .ok (.aastore, 1) := by decide +kernel
theorem d_Layer_init_34 : decode b_Layer_init 34 = .ok (.iinc 1 1, 3) := by decide +kernel
theorem d_Layer_init_37 : decode b_Layer_init 37 = .ok (.goto (-22), 3) := by decide +kernel
theorem d_Layer_init_40 : decode b_Layer_init 40 = .ok (.return_, 1) := by decide +kernel
theorem d_Layer_isFull_0 : decode b_Layer_isFull 0 = .ok (.aload_n 0, 1) := by decide +kernel
theorem d_Layer_isFull_1 : decode b_Layer_isFull 1 = .ok (.getfield 18, 3) := by decide +kernel
theorem d_Layer_isFull_4 : decode b_Layer_isFull 4 = .ok (.bipush 6, 2) := by decide +kernel
theorem d_Layer_isFull_6 : decode b_Layer_isFull 6 = .ok (.if_icmp .lt 7, 3) := by decide +kernel
theorem d_Layer_isFull_9 : decode b_Layer_isFull 9 = .ok (.iconst 1, 1) := by decide +kernel
theorem d_Layer_isFull_10 : decode b_Layer_isFull 10 = .ok (.goto 4, 3) := by decide +kernel
theorem d_Layer_isFull_13 : decode b_Layer_isFull 13 = .ok (.iconst 0, 1) := by decide +kernel
theorem d_Layer_isFull_14 : decode b_Layer_isFull 14 = .ok (.ireturn, 1) := by decide +kernel
theorem d_Layer_isJudged_0 : decode b_Layer_isJudged 0 = .ok (.aload_n 0, 1) := by decide +kernel
theorem d_Layer_isJudged_1 : decode b_Layer_isJudged 1 = .ok (.getfield 30, 3) := by decide +kernel
theorem d_Layer_isJudged_4 : decode b_Layer_isJudged 4 = .ok (.iload_n 1, 1) := by decide +kernel
theorem d_Layer_isJudged_5 : decode b_Layer_isJudged 5 = .ok (.iushr, 1) := by decide +kernel
theorem d_Layer_isJudged_6 : decode b_Layer_isJudged 6 = .ok (.iconst 1, 1) := by decide +kernel
theorem d_Layer_isJudged_7 : decode b_Layer_isJudged 7 = .ok (.iand, 1) := by decide +kernel
theorem d_Layer_isJudged_8 : decode b_Layer_isJudged 8 = .ok (.ifCond .eq 7, 3) := by decide +kernel
theorem d_Layer_isJudged_11 : decode b_Layer_isJudged 11 = .ok (.iconst 1, 1) := by decide +kernel
theorem d_Layer_isJudged_12 : decode b_Layer_isJudged 12 = .ok (.goto 4, 3) := by decide +kernel
theorem d_Layer_isJudged_15 : decode b_Layer_isJudged 15 = .ok (.iconst 0, 1) := by decide +kernel
theorem d_Layer_isJudged_16 : decode b_Layer_isJudged 16 = .ok (.ireturn, 1) := by decide +kernel
theorem d_Layer_judge_0 : decode b_Layer_judge 0 = .ok (.aload_n 0, 1) := by decide +kernel
theorem d_Layer_judge_1 : decode b_Layer_judge 1 = .ok (.iconst 0, 1) := by decide +kernel
theorem d_Layer_judge_2 : decode b_Layer_judge 2 = .ok (.putfield 30, 3) := by decide +kernel
theorem d_Layer_judge_5 : decode b_Layer_judge 5 = .ok (.iconst 0, 1) := by decide +kernel
theorem d_Layer_judge_6 : decode b_Layer_judge 6 = .ok (.istore 7, 2) := by decide +kernel
theorem d_Layer_judge_8 : decode b_Layer_judge 8 = .ok (.iload 7, 2) := by decide +kernel
theorem d_Layer_judge_10 : decode b_Layer_judge 10 = .ok (.aload_n 0, 1) := by decide +kernel
theorem d_Layer_judge_11 : decode b_Layer_judge 11 = .ok (.getfield 18, 3) := by decide +kernel
theorem d_Layer_judge_14 : decode b_Layer_judge 14 = .ok (.if_icmp .ge 48, 3) := by decide +kernel
theorem d_Layer_judge_17 : decode b_Layer_judge 17 = .ok (.iload 7, 2) := by decide +kernel
theorem d_Layer_judge_19 : decode b_Layer_judge 19 = .ok (.bipush 6, 2) := by decide +kernel
theorem d_Layer_judge_21 : decode b_Layer_judge 21 = .ok (.if_icmp .ge 41, 3) := by decide +kernel
theorem d_Layer_judge_24 : decode b_Layer_judge 24 = .ok (.aload_n 0, 1) := by decide +kernel
theorem d_Layer_judge_25 : decode b_Layer_judge 25 = .ok (.getfield 13, 3) := by decide +kernel
theorem d_Layer_judge_28 : decode b_Layer_judge 28 = .ok (.iload 7, 2) := by decide +kernel
theorem d_Layer_judge_30 : decode b_Layer_judge 30 = .ok (.aaload, 1) := by decide +kernel
theorem d_Layer_judge_31 : decode b_Layer_judge 31 = .ok (.iload_n 1, 1) := by decide +kernel
theorem d_Layer_judge_32 : decode b_Layer_judge 32 = .ok (.lload_n 2, 1) := by decide +kernel
theorem d_Layer_judge_33 : decode b_Layer_judge 33 = .ok (.lload 4, 2) := by decide +kernel
theorem d_Layer_judge_35 : decode b_Layer_judge 35 = .ok (.aload 6, 2) := by decide +kernel
theorem d_Layer_judge_37 : decode b_Layer_judge 37 = .ok (.invokevirtual 33, 3) := by decide +kernel
theorem d_Layer_judge_40 : decode b_Layer_judge 40 = .ok (.ifCond .eq 16, 3) := by decide +kernel
theorem d_Layer_judge_43 : decode b_Layer_judge 43 = .ok (.aload_n 0, 1) := by decide +kernel
theorem d_Layer_judge_44 : decode b_Layer_judge 44 = .ok (.dup, 1) := by decide +kernel
theorem d_Layer_judge_45 : decode b_Layer_judge 45 = .ok (.getfield 30, 3) := by decide +kernel
theorem d_Layer_judge_48 : decode b_Layer_judge 48 = .ok (.iconst 1, 1) := by decide +kernel
theorem d_Layer_judge_49 : decode b_Layer_judge 49 = .ok (.iload 7, 2) := by decide +kernel
theorem d_Layer_judge_51 : decode b_Layer_judge 51 = .ok (.ishl, 1) := by decide +kernel
theorem d_Layer_judge_52 : decode b_Layer_judge 52 = .ok (.ior, 1) := by decide +kernel
theorem d_Layer_judge_53 : decode b_Layer_judge 53 = .ok (.putfield 30, 3) := by decide +kernel
theorem d_Layer_judge_56 : decode b_Layer_judge 56 = .ok (.iinc 7 1, 3) := by decide +kernel
theorem d_Layer_judge_59 : decode b_Layer_judge 59 = .ok (.goto (-51), 3) := by decide +kernel
theorem d_Layer_judge_62 : decode b_Layer_judge 62 = .ok (.return_, 1) := by decide +kernel
theorem d_Pattern_fits_0 : decode b_Pattern_fits 0 = .ok (.lload_n 0, 1) := by decide +kernel
theorem d_Pattern_fits_1 : decode b_Pattern_fits 1 = .ok (.invokestatic 7, 3) := by decide +kernel
theorem d_Pattern_fits_4 : decode b_Pattern_fits 4 = .ok (.istore 6, 2) := by decide +kernel
theorem d_Pattern_fits_6 : decode b_Pattern_fits 6 = .ok (.iconst 1, 1) := by decide +kernel
theorem d_Pattern_fits_7 : decode b_Pattern_fits 7 = .ok (.istore 7, 2) := by decide +kernel
theorem d_Pattern_fits_9 : decode b_Pattern_fits 9 = .ok (.iconst 0, 1) := by decide +kernel
theorem d_Pattern_fits_10 : decode b_Pattern_fits 10 = .ok (.istore 8, 2) := by decide +kernel
theorem d_Pattern_fits_12 : decode b_Pattern_fits 12 = .ok (.iconst 0, 1) := by decide +kernel
theorem d_Pattern_fits_13 : decode b_Pattern_fits 13 = .ok (.istore 9, 2) := by decide +kernel
theorem d_Pattern_fits_15 : decode b_Pattern_fits 15 = .ok (.iload 9, 2) := by decide +kernel
theorem d_Pattern_fits_17 : decode b_Pattern_fits 17 = .ok (.iload 6, 2) := by decide +kernel
theorem d_Pattern_fits_19 : decode b_Pattern_fits 19 = .ok (.if_icmp .ge 119, 3) := by decide +kernel
theorem d_Pattern_fits_22 : decode b_Pattern_fits 22 = .ok (.lload_n 0, 1) := by decide +kernel
theorem d_Pattern_fits_23 : decode b_Pattern_fits 23 = .ok (.iload 9, 2) := by decide +kernel
theorem d_Pattern_fits_25 : decode b_Pattern_fits 25 = .ok (.invokestatic 15, 3) := by decide +kernel
theorem d_Pattern_fits_28 : decode b_Pattern_fits 28 = .ok (.istore 10, 2) := by decide +kernel
theorem d_Pattern_fits_30 : decode b_Pattern_fits 30 = .ok (.iload 8, 2) := by decide +kernel
theorem d_Pattern_fits_32 : decode b_Pattern_fits 32 = .ok (.ifCond .eq 38, 3) := by decide +kernel
theorem d_Pattern_fits_35 : decode b_Pattern_fits 35 = .ok (.iload 10, 2) := by decide +kernel
theorem d_Pattern_fits_37 : decode b_Pattern_fits 37 = .ok (.aload 5, 2) := by decide +kernel
theorem d_Pattern_fits_39 : decode b_Pattern_fits 39 = .ok (.invokestatic 19, 3) := by decide +kernel
theorem d_Pattern_fits_42 : decode b_Pattern_fits 42 = .ok (.ifCond .ne 5, 3) := by decide +kernel
theorem d_Pattern_fits_45 : decode b_Pattern_fits 45 = .ok (.iconst 0, 1) := by decide +kernel
theorem d_Pattern_fits_46 : decode b_Pattern_fits 46 = .ok (.ireturn, 1) := by decide +kernel
theorem d_Pattern_fits_47 : decode b_Pattern_fits 47 = .ok (.iload 7, 2) := by decide +kernel
theorem d_Pattern_fits_49 : decode b_Pattern_fits 49 = .ok (.iload 10, 2) := by decide +kernel
theorem d_Pattern_fits_51 : decode b_Pattern_fits 51 = .ok (.aload 5, 2) := by decide +kernel
theorem d_Pattern_fits_53 : decode b_Pattern_fits 53 = .ok (.invokestatic 23, 3) := by decide +kernel
theorem d_Pattern_fits_56 : decode b_Pattern_fits 56 = .ok (.lload_n 2, 1) := by decide +kernel
theorem d_Pattern_fits_57 : decode b_Pattern_fits 57 = .ok (.iload 4, 2) := by decide +kernel
theorem d_Pattern_fits_59 : decode b_Pattern_fits 59 = .ok (.invokestatic 27, 3) := by decide +kernel
theorem d_Pattern_fits_62 : decode b_Pattern_fits 62 = .ok (.istore 7, 2) := by decide +kernel
theorem d_Pattern_fits_64 : decode b_Pattern_fits 64 = .ok (.iconst 0, 1) := by decide +kernel
theorem d_Pattern_fits_65 : decode b_Pattern_fits 65 = .ok (.istore 8, 2) := by decide +kernel
theorem d_Pattern_fits_67 : decode b_Pattern_fits 67 = .ok (.goto 65, 3) := by decide +kernel
theorem d_Pattern_fits_70 : decode b_Pattern_fits 70 = .ok (.iload 10, 2) := by decide +kernel
theorem d_Pattern_fits_72 : decode b_Pattern_fits 72 = .ok (.bipush 36, 2) := by decide +kernel
theorem d_Pattern_fits_74 : decode b_Pattern_fits 74 = .ok (.if_icmp .ne 9, 3) := by decide +kernel
theorem d_Pattern_fits_77 : decode b_Pattern_fits 77 = .ok (.iconst 1, 1) := by decide +kernel
theorem d_Pattern_fits_78 : decode b_Pattern_fits 78 = .ok (.istore 8, 2) := by decide +kernel
theorem d_Pattern_fits_80 : decode b_Pattern_fits 80 = .ok (.goto 52, 3) := by decide +kernel
theorem d_Pattern_fits_83 : decode b_Pattern_fits 83 = .ok (.iload 10, 2) := by decide +kernel
theorem d_Pattern_fits_85 : decode b_Pattern_fits 85 = .ok (.bipush 42, 2) := by decide +kernel
theorem d_Pattern_fits_87 : decode b_Pattern_fits 87 = .ok (.if_icmp .ne 14, 3) := by decide +kernel
theorem d_Pattern_fits_90 : decode b_Pattern_fits 90 = .ok (.iload 7, 2) := by decide +kernel
theorem d_Pattern_fits_92 : decode b_Pattern_fits 92 = .ok (.lload_n 2, 1) := by decide +kernel
theorem d_Pattern_fits_93 : decode b_Pattern_fits 93 = .ok (.invokestatic 31, 3) := by decide +kernel
theorem d_Pattern_fits_96 : decode b_Pattern_fits 96 = .ok (.istore 7, 2) := by decide +kernel
theorem d_Pattern_fits_98 : decode b_Pattern_fits 98 = .ok (.goto 34, 3) := by decide +kernel
theorem d_Pattern_fits_101 : decode b_Pattern_fits 101 = .ok (.iload 10, 2) := by decide +kernel
theorem d_Pattern_fits_103 : decode b_Pattern_fits 103 = .ok (.bipush 63, 2) := by decide +kernel
theorem d_Pattern_fits_105 : decode b_Pattern_fits 105 = .ok (.if_icmp .ne 14, 3) := by decide +kernel
theorem d_Pattern_fits_108 : decode b_Pattern_fits 108 = .ok (.iload 7, 2) := by decide +kernel
theorem d_Pattern_fits_110 : decode b_Pattern_fits 110 = .ok (.lload_n 2, 1) := by decide +kernel
theorem d_Pattern_fits_111 : decode b_Pattern_fits 111 = .ok (.invokestatic 35, 3) := by decide +kernel
theorem d_Pattern_fits_114 : decode b_Pattern_fits 114 = .ok (.istore 7, 2) := by decide +kernel
theorem d_Pattern_fits_116 : decode b_Pattern_fits 116 = .ok (.goto 16, 3) := by decide +kernel
theorem d_Pattern_fits_119 : decode b_Pattern_fits 119 = .ok (.iload 7, 2) := by decide +kernel
theorem d_Pattern_fits_121 : decode b_Pattern_fits 121 = .ok (.iload 10, 2) := by decide +kernel
theorem d_Pattern_fits_123 : decode b_Pattern_fits 123 = .ok (.i2l, 1) := by decide +kernel
theorem d_Pattern_fits_124 : decode b_Pattern_fits 124 = .ok (.lload_n 2, 1) := by decide +kernel
theorem d_Pattern_fits_125 : decode b_Pattern_fits 125 = .ok (.iload 4, 2) := by decide +kernel
theorem d_Pattern_fits_127 : decode b_Pattern_fits 127 = .ok (.invokestatic 27, 3) := by decide +kernel
theorem d_Pattern_fits_130 : decode b_Pattern_fits 130 = .ok (.istore 7, 2) := by decide +kernel
theorem d_Pattern_fits_132 : decode b_Pattern_fits 132 = .ok (.iinc 9 1, 3) := by decide +kernel
theorem d_Pattern_fits_135 : decode b_Pattern_fits 135 = .ok (.goto (-120), 3) := by decide +kernel
theorem d_Pattern_fits_138 : decode b_Pattern_fits 138 = .ok (.iload 8, 2) := by decide +kernel
theorem d_Pattern_fits_140 : decode b_Pattern_fits 140 = .ok (.ifCond .ne 19, 3) := by decide +kernel
theorem d_Pattern_fits_143 : decode b_Pattern_fits 143 = .ok (.iload 7, 2) := by decide +kernel
theorem d_Pattern_fits_145 : decode b_Pattern_fits 145 = .ok (.lload_n 2, 1) := by decide +kernel
theorem d_Pattern_fits_146 : decode b_Pattern_fits 146 = .ok (.invokestatic 7, 3) := by decide +kernel
theorem d_Pattern_fits_149 : decode b_Pattern_fits 149 = .ok (.iushr, 1) := by decide +kernel
theorem d_Pattern_fits_150 : decode b_Pattern_fits 150 = .ok (.iconst 1, 1) := by decide +kernel
theorem d_Pattern_fits_151 : decode b_Pattern_fits 151 = .ok (.iand, 1) := by decide +kernel
theorem d_Pattern_fits_152 : decode b_Pattern_fits 152 = .ok (.ifCond .eq 7, 3) := by decide +kernel
theorem d_Pattern_fits_155 : decode b_Pattern_fits 155 = .ok (.iconst 1, 1) := by decide +kernel
theorem d_Pattern_fits_156 : decode b_Pattern_fits 156 = .ok (.goto 4, 3) := by decide +kernel
theorem d_Pattern_fits_159 : decode b_Pattern_fits 159 = .ok (.iconst 0, 1) := by decide +kernel
theorem d_Pattern_fits_160 : decode b_Pattern_fits 160 = .ok (.ireturn, 1) := by decide +kernel
theorem d_Pattern_meaning_0 : decode b_Pattern_meaning 0 = .ok (.iload_n 0, 1) := by decide +kernel
theorem d_Pattern_meaning_1 : decode b_Pattern_meaning 1 = .ok (.bipush 48, 2) := by decide +kernel
theorem d_Pattern_meaning_3 : decode b_Pattern_meaning 3 = .ok (.isub, 1) := by decide +kernel
theorem d_Pattern_meaning_4 : decode b_Pattern_meaning 4 = .ok (.invokestatic 44, 3) := by decide +kernel
theorem d_Pattern_meaning_7 : decode b_Pattern_meaning 7 = .ok (.ifCond .eq 15, 3) := by decide +kernel
theorem d_Pattern_meaning_10 : decode b_Pattern_meaning 10 = .ok (.aload_n 1, 1) := by decide +kernel
theorem d_Pattern_meaning_11 : decode b_Pattern_meaning 11 = .ok (.iload_n 0, 1) := by decide +kernel
theorem d_Pattern_meaning_12 : decode b_Pattern_meaning 12 = .ok (.bipush 48, 2) := by decide +kernel
theorem d_Pattern_meaning_14 : decode b_Pattern_meaning 14 = .ok (.isub, 1) := by decide +kernel
theorem d_Pattern_meaning_15 : decode b_Pattern_meaning 15 = .ok (.iconst 0, 1) := by decide +kernel
theorem d_Pattern_meaning_16 : decode b_Pattern_meaning 16 = .ok (.invokevirtual 48, 3) := by decide +kernel
theorem d_Pattern_meaning_19 : decode b_Pattern_meaning 19 = .ok (.goto 5, 3) := by decide +kernel
theorem d_Pattern_meaning_22 : decode b_Pattern_meaning 22 = .ok (.iload_n 0, 1) := by decide +kernel
theorem d_Pattern_meaning_23 : decode b_Pattern_meaning 23 = .ok (.i2l, 1) := by decide +kernel
theorem d_Pattern_meaning_24 : decode b_Pattern_meaning 24 = .ok (.lreturn, 1) := by decide +kernel
theorem d_Pattern_meansSomething_0 : decode b_Pattern_meansSomething 0 = .ok (.iload_n 0, 1) := by decide +kernel
theorem d_Pattern_meansSomething_1 : decode b_Pattern_meansSomething 1 = .ok (.bipush 36, 2) := by decide +kernel
theorem d_Pattern_meansSomething_3 : decode b_Pattern_meansSomething 3 = .ok (.if_icmp .eq 27, 3) := by decide +kernel
theorem d_Pattern_meansSomething_6 : decode b_Pattern_meansSomething 6 = .ok (.iload_n 0, 1) := by decide +kernel
theorem d_Pattern_meansSomething_7 : decode b_Pattern_meansSomething 7 = .ok (.bipush 42, 2) := by decide +kernel
theorem d_Pattern_meansSomething_9 : decode b_Pattern_meansSomething 9 = .ok (.if_icmp .eq 21, 3) := by decide +kernel
theorem d_Pattern_meansSomething_12 : decode b_Pattern_meansSomething 12 = .ok (.iload_n 0, 1) := by decide +kernel
theorem d_Pattern_meansSomething_13 : decode b_Pattern_meansSomething 13 = .ok (.bipush 63, 2) := by decide +kernel
theorem d_Pattern_meansSomething_15 : decode b_Pattern_meansSomething 15 = .ok (.if_icmp .eq 15, 3) := by decide +kernel
theorem d_Pattern_meansSomething_18 : decode b_Pattern_meansSomething 18 = .ok (.aload_n 1, 1) := by decide +kernel
theorem d_Pattern_meansSomething_19 : decode b_Pattern_meansSomething 19 = .ok (.iload_n 0, 1) := by decide +kernel
theorem d_Pattern_meansSomething_20 : decode b_Pattern_meansSomething 20 = .ok (.bipush 48, 2) := by decide +kernel
theorem d_Pattern_meansSomething_22 : decode b_Pattern_meansSomething 22 = .ok (.isub, 1) := by decide +kernel
theorem d_Pattern_meansSomething_23 : decode b_Pattern_meansSomething 23 = .ok (.invokevirtual 38, 3) := by decide +kernel
theorem d_Pattern_meansSomething_26 : decode b_Pattern_meansSomething 26 = .ok (.iconst 1, 1) := by decide +kernel
theorem d_Pattern_meansSomething_27 : decode b_Pattern_meansSomething 27 = .ok (.if_icmp .ne 7, 3) := by decide +kernel
theorem d_Pattern_meansSomething_30 : decode b_Pattern_meansSomething 30 = .ok (.iconst 1, 1) := by decide +kernel
theorem d_Pattern_meansSomething_31 : decode b_Pattern_meansSomething 31 = .ok (.goto 4, 3) := by decide +kernel
theorem d_Pattern_meansSomething_34 : decode b_Pattern_meansSomething 34 = .ok (.iconst 0, 1) := by decide +kernel
theorem d_Pattern_meansSomething_35 : decode b_Pattern_meansSomething 35 = .ok (.ireturn, 1) := by decide +kernel
theorem d_Pattern_readAnyOne_0 : decode b_Pattern_readAnyOne 0 = .ok (.iconst 2, 1) := by decide +kernel
theorem d_Pattern_readAnyOne_1 : decode b_Pattern_readAnyOne 1 = .ok (.lload_n 1, 1) := by decide +kernel
theorem d_Pattern_readAnyOne_2 : decode b_Pattern_readAnyOne 2 = .ok (.invokestatic 7, 3) := by decide +kernel
theorem d_Pattern_readAnyOne_5 : decode b_Pattern_readAnyOne 5 = .ok (.ishl, 1) := by decide +kernel
theorem d_Pattern_readAnyOne_6 : decode b_Pattern_readAnyOne 6 = .ok (.iconst 1, 1) := by decide +kernel
theorem d_Pattern_readAnyOne_7 : decode b_Pattern_readAnyOne 7 = .ok (.isub, 1) := by decide +kernel
theorem d_Pattern_readAnyOne_8 : decode b_Pattern_readAnyOne 8 = .ok (.istore_n 3, 1) := by decide +kernel
theorem d_Pattern_readAnyOne_9 : decode b_Pattern_readAnyOne 9 = .ok (.iload_n 0, 1) := by decide +kernel
theorem d_Pattern_readAnyOne_10 : decode b_Pattern_readAnyOne 10 = .ok (.iconst 1, 1) := by decide +kernel
theorem d_Pattern_readAnyOne_11 : decode b_Pattern_readAnyOne 11 = .ok (.ishl, 1) := by decide +kernel
theorem d_Pattern_readAnyOne_12 : decode b_Pattern_readAnyOne 12 = .ok (.iload_n 3, 1) := by decide +kernel
theorem d_Pattern_readAnyOne_13 : decode b_Pattern_readAnyOne 13 = .ok (.iand, 1) := by decide +kernel
theorem d_Pattern_readAnyOne_14 : decode b_Pattern_readAnyOne 14 = .ok (.ireturn, 1) := by decide +kernel
theorem d_Pattern_readAnyRow_0 : decode b_Pattern_readAnyRow 0 = .ok (.iload_n 0, 1) := by decide +kernel
theorem d_Pattern_readAnyRow_1 : decode b_Pattern_readAnyRow 1 = .ok (.iload_n 0, 1) := by decide +kernel
theorem d_Pattern_readAnyRow_2 : decode b_Pattern_readAnyRow 2 = .ok (.ineg, 1) := by decide +kernel
theorem d_Pattern_readAnyRow_3 : decode b_Pattern_readAnyRow 3 = .ok (.iand, 1) := by decide +kernel
theorem d_Pattern_readAnyRow_4 : decode b_Pattern_readAnyRow 4 = .ok (.istore_n 3, 1) := by decide +kernel
theorem d_Pattern_readAnyRow_5 : decode b_Pattern_readAnyRow 5 = .ok (.iconst 2, 1) := by decide +kernel
theorem d_Pattern_readAnyRow_6 : decode b_Pattern_readAnyRow 6 = .ok (.lload_n 1, 1) := by decide +kernel
theorem d_Pattern_readAnyRow_7 : decode b_Pattern_readAnyRow 7 = .ok (.invokestatic 7, 3) := by decide +kernel
theorem d_Pattern_readAnyRow_10 : decode b_Pattern_readAnyRow 10 = .ok (.ishl, 1) := by decide +kernel
theorem d_Pattern_readAnyRow_11 : decode b_Pattern_readAnyRow 11 = .ok (.iconst 1, 1) := by decide +kernel
theorem d_Pattern_readAnyRow_12 : decode b_Pattern_readAnyRow 12 = .ok (.isub, 1) := by decide +kernel
theorem d_Pattern_readAnyRow_13 : decode b_Pattern_readAnyRow 13 = .ok (.istore 4, 2) := by decide +kernel
theorem d_Pattern_readAnyRow_15 : decode b_Pattern_readAnyRow 15 = .ok (.iload_n 3, 1) := by decide +kernel
theorem d_Pattern_readAnyRow_16 : decode b_Pattern_readAnyRow 16 = .ok (.ineg, 1) := by decide +kernel
theorem d_Pattern_readAnyRow_17 : decode b_Pattern_readAnyRow 17 = .ok (.iload 4, 2) := by decide +kernel
theorem d_Pattern_readAnyRow_19 : decode b_Pattern_readAnyRow 19 = .ok (.iand, 1) := by decide +kernel
theorem d_Pattern_readAnyRow_20 : decode b_Pattern_readAnyRow 20 = .ok (.ireturn, 1) := by decide +kernel
theorem d_Pattern_readText_0 : decode b_Pattern_readText 0 = .ok (.lload_n 1, 1) := by decide +kernel
theorem d_Pattern_readText_1 : decode b_Pattern_readText 1 = .ok (.invokestatic 7, 3) := by decide +kernel
theorem d_Pattern_readText_4 : decode b_Pattern_readText 4 = .ok (.istore 6, 2) := by decide +kernel
theorem d_Pattern_readText_6 : decode b_Pattern_readText 6 = .ok (.lload_n 3, 1) := by decide +kernel
theorem d_Pattern_readText_7 : decode b_Pattern_readText 7 = .ok (.invokestatic 7, 3) := by decide +kernel
theorem d_Pattern_readText_10 : decode b_Pattern_readText 10 = .ok (.istore 7, 2) := by decide +kernel
theorem d_Pattern_readText_12 : decode b_Pattern_readText 12 = .ok (.iload_n 0, 1) := by decide +kernel
theorem d_Pattern_readText_13 : decode b_Pattern_readText 13 = .ok (.istore 8, 2) := by decide +kernel
theorem d_Pattern_readText_15 : decode b_Pattern_readText 15 = .ok (.iconst 0, 1) := by decide +kernel
theorem d_Pattern_readText_16 : decode b_Pattern_readText 16 = .ok (.istore 9, 2) := by decide +kernel
theorem d_Pattern_readText_18 : decode b_Pattern_readText 18 = .ok (.iload 9, 2) := by decide +kernel
theorem d_Pattern_readText_20 : decode b_Pattern_readText 20 = .ok (.iload 6, 2) := by decide +kernel
theorem d_Pattern_readText_22 : decode b_Pattern_readText 22 = .ok (.if_icmp .ge 75, 3) := by decide +kernel
theorem d_Pattern_readText_25 : decode b_Pattern_readText 25 = .ok (.lload_n 1, 1) := by decide +kernel
theorem d_Pattern_readText_26 : decode b_Pattern_readText 26 = .ok (.iload 9, 2) := by decide +kernel
theorem d_Pattern_readText_28 : decode b_Pattern_readText 28 = .ok (.invokestatic 15, 3) := by decide +kernel
theorem d_Pattern_readText_31 : decode b_Pattern_readText 31 = .ok (.istore 10, 2) := by decide +kernel
theorem d_Pattern_readText_33 : decode b_Pattern_readText 33 = .ok (.iconst 0, 1) := by decide +kernel
theorem d_Pattern_readText_34 : decode b_Pattern_readText 34 = .ok (.istore 11, 2) := by decide +kernel
theorem d_Pattern_readText_36 : decode b_Pattern_readText 36 = .ok (.iconst 0, 1) := by decide +kernel
theorem d_Pattern_readText_37 : decode b_Pattern_readText 37 = .ok (.istore 12, 2) := by decide +kernel
theorem d_Pattern_readText_39 : decode b_Pattern_readText 39 = .ok (.iload 12, 2) := by decide +kernel
theorem d_Pattern_readText_41 : decode b_Pattern_readText 41 = .ok (.iload 7, 2) := by decide +kernel
theorem d_Pattern_readText_43 : decode b_Pattern_readText 43 = .ok (.if_icmp .ge 44, 3) := by decide +kernel
theorem d_Pattern_readText_46 : decode b_Pattern_readText 46 = .ok (.iload 8, 2) := by decide +kernel
theorem d_Pattern_readText_48 : decode b_Pattern_readText 48 = .ok (.iload 12, 2) := by decide +kernel
theorem d_Pattern_readText_50 : decode b_Pattern_readText 50 = .ok (.iushr, 1) := by decide +kernel
theorem d_Pattern_readText_51 : decode b_Pattern_readText 51 = .ok (.iconst 1, 1) := by decide +kernel
theorem d_Pattern_readText_52 : decode b_Pattern_readText 52 = .ok (.iand, 1) := by decide +kernel
theorem d_Pattern_readText_53 : decode b_Pattern_readText 53 = .ok (.ifCond .eq 28, 3) := by decide +kernel
theorem d_Pattern_readText_56 : decode b_Pattern_readText 56 = .ok (.iload 10, 2) := by decide +kernel
theorem d_Pattern_readText_58 : decode b_Pattern_readText 58 = .ok (.lload_n 3, 1) := by decide +kernel
theorem d_Pattern_readText_59 : decode b_Pattern_readText 59 = .ok (.iload 12, 2) := by decide +kernel
theorem d_Pattern_readText_61 : decode b_Pattern_readText 61 = .ok (.invokestatic 15, 3) := by decide +kernel
theorem d_Pattern_readText_64 : decode b_Pattern_readText 64 = .ok (.iload 5, 2) := by decide +kernel
theorem d_Pattern_readText_66 : decode b_Pattern_readText 66 = .ok (.invokestatic 52, 3) := by decide +kernel
theorem d_Pattern_readText_69 : decode b_Pattern_readText 69 = .ok (.ifCond .eq 12, 3) := by decide +kernel
theorem d_Pattern_readText_72 : decode b_Pattern_readText 72 = .ok (.iload 11, 2) := by decide +kernel
theorem d_Pattern_readText_74 : decode b_Pattern_readText 74 = .ok (.iconst 2, 1) := by decide +kernel
theorem d_Pattern_readText_75 : decode b_Pattern_readText 75 = .ok (.iload 12, 2) := by decide +kernel
theorem d_Pattern_readText_77 : decode b_Pattern_readText 77 = .ok (.ishl, 1) := by decide +kernel
theorem d_Pattern_readText_78 : decode b_Pattern_readText 78 = .ok (.ior, 1) := by decide +kernel
theorem d_Pattern_readText_79 : decode b_Pattern_readText 79 = .ok (.istore 11, 2) := by decide +kernel
theorem d_Pattern_readText_81 : decode b_Pattern_readText 81 = .ok (.iinc 12 1, 3) := by decide +kernel
theorem d_Pattern_readText_84 : decode b_Pattern_readText 84 = .ok (.goto (-45), 3) := by decide +kernel
theorem d_Pattern_readText_87 : decode b_Pattern_readText 87 = .ok (.iload 11, 2) := by decide +kernel
theorem d_Pattern_readText_89 : decode b_Pattern_readText 89 = .ok (.istore 8, 2) := by decide +kernel
theorem d_Pattern_readText_91 : decode b_Pattern_readText 91 = .ok (.iinc 9 1, 3) := by decide +kernel
theorem d_Pattern_readText_94 : decode b_Pattern_readText 94 = .ok (.goto (-76), 3) := by decide +kernel
theorem d_Pattern_readText_97 : decode b_Pattern_readText 97 = .ok (.iload 8, 2) := by decide +kernel
theorem d_Pattern_readText_99 : decode b_Pattern_readText 99 = .ok (.ireturn, 1) := by decide +kernel
theorem d_Statement_become_0 : decode b_Statement_become 0 = .ok (.aload_n 0, 1) := by decide +kernel
theorem d_Statement_become_1 : decode b_Statement_become 1 = .ok (.iload_n 1, 1) := by decide +kernel
theorem d_Statement_become_2 : decode b_Statement_become 2 = .ok (.putfield 9, 3) := by decide +kernel
theorem d_Statement_become_5 : decode b_Statement_become 5 = .ok (.aload_n 0, 1) := by decide +kernel
theorem d_Statement_become_6 : decode b_Statement_become 6 = .ok (.lload_n 2, 1) := by decide +kernel
theorem d_Statement_become_7 : decode b_Statement_become 7 = .ok (.putfield 13, 3) := by decide +kernel
theorem d_Statement_become_10 : decode b_Statement_become 10 = .ok (.aload_n 0, 1) := by decide +kernel
theorem d_Statement_become_11 : decode b_Statement_become 11 = .ok (.lload 4, 2) := by decide +kernel
theorem d_Statement_become_13 : decode b_Statement_become 13 = .ok (.putfield 17, 3) := by decide +kernel
theorem d_Statement_become_16 : decode b_Statement_become 16 = .ok (.aload_n 0, 1) := by decide +kernel
theorem d_Statement_become_17 : decode b_Statement_become 17 = .ok (.iload 6, 2) := by decide +kernel
theorem d_Statement_become_19 : decode b_Statement_become 19 = .ok (.putfield 20, 3) := by decide +kernel
theorem d_Statement_become_22 : decode b_Statement_become 22 = .ok (.aload_n 0, 1) := by decide +kernel
theorem d_Statement_become_23 : decode b_Statement_become 23 = .ok (.aload 7, 2) := by decide +kernel
theorem d_Statement_become_25 : decode b_Statement_become 25 = .ok (.putfield 23, 3) := by decide +kernel
theorem d_Statement_become_28 : decode b_Statement_become 28 = .ok (.return_, 1) := by decide +kernel
theorem d_Statement_init_0 : decode b_Statement_init 0 = .ok (.aload_n 0, 1) := by decide +kernel
theorem d_Statement_init_1 : decode b_Statement_init 1 = .ok (.invokespecial 1, 3) := by decide +kernel
theorem d_Statement_init_4 : decode b_Statement_init 4 = .ok (.return_, 1) := by decide +kernel
theorem d_Statement_isDenying_0 : decode b_Statement_isDenying 0 = .ok (.aload_n 0, 1) := by decide +kernel
theorem d_Statement_isDenying_1 : decode b_Statement_isDenying 1 = .ok (.getfield 9, 3) := by decide +kernel
theorem d_Statement_isDenying_4 : decode b_Statement_isDenying 4 = .ok (.iconst 1, 1) := by decide +kernel
theorem d_Statement_isDenying_5 : decode b_Statement_isDenying 5 = .ok (.iand, 1) := by decide +kernel
theorem d_Statement_isDenying_6 : decode b_Statement_isDenying 6 = .ok (.ifCond .eq 7, 3) := by decide +kernel
theorem d_Statement_isDenying_9 : decode b_Statement_isDenying 9 = .ok (.iconst 1, 1) := by decide +kernel
theorem d_Statement_isDenying_10 : decode b_Statement_isDenying 10 = .ok (.goto 4, 3) := by decide +kernel
theorem d_Statement_isDenying_13 : decode b_Statement_isDenying 13 = .ok (.iconst 0, 1) := by decide +kernel
theorem d_Statement_isDenying_14 : decode b_Statement_isDenying 14 = .ok (.ireturn, 1) := by decide +kernel
theorem d_Statement_isWho_0 : decode b_Statement_isWho 0 = .ok (.iload_n 0, 1) := by decide +kernel
theorem d_Statement_isWho_1 : decode b_Statement_isWho 1 = .ok (.iconst (-1), 1) := by decide +kernel
theorem d_Statement_isWho_2 : decode b_Statement_isWho 2 = .ok (.if_icmp .lt 9, 3) := by decide +kernel
theorem d_Statement_isWho_5 : decode b_Statement_isWho 5 = .ok (.iload_n 0, 1) := by decide +kernel
theorem d_Statement_isWho_6 : decode b_Statement_isWho 6 = .ok (.bipush 9, 2) := by decide +kernel
theorem d_Statement_isWho_8 : decode b_Statement_isWho 8 = .ok (.if_icmp .le 16, 3) := by decide +kernel
theorem d_Statement_isWho_11 : decode b_Statement_isWho 11 = .ok (.iload_n 0, 1) := by decide +kernel
theorem d_Statement_isWho_12 : decode b_Statement_isWho 12 = .ok (.bipush 100, 2) := by decide +kernel
theorem d_Statement_isWho_14 : decode b_Statement_isWho 14 = .ok (.if_icmp .lt 14, 3) := by decide +kernel
theorem d_Statement_isWho_17 : decode b_Statement_isWho 17 = .ok (.iload_n 0, 1) := by decide +kernel
theorem d_Statement_isWho_18 : decode b_Statement_isWho 18 = .ok (.sipush 199, 3) := by decide +kernel
theorem d_Statement_isWho_21 : decode b_Statement_isWho 21 = .ok (.if_icmp .gt 7, 3) := by decide +kernel
theorem d_Statement_isWho_24 : decode b_Statement_isWho 24 = .ok (.iconst 1, 1) := by decide +kernel
theorem d_Statement_isWho_25 : decode b_Statement_isWho 25 = .ok (.goto 4, 3) := by decide +kernel
theorem d_Statement_isWho_28 : decode b_Statement_isWho 28 = .ok (.iconst 0, 1) := by decide +kernel
theorem d_Statement_isWho_29 : decode b_Statement_isWho 29 = .ok (.ireturn, 1) := by decide +kernel
theorem d_Statement_means_0 : decode b_Statement_means 0 = .ok (.aload_n 0, 1) := by decide +kernel
theorem d_Statement_means_1 : decode b_Statement_means 1 = .ok (.getfield 20, 3) := by decide +kernel
theorem d_Statement_means_4 : decode b_Statement_means 4 = .ok (.iconst (-1), 1) := by decide +kernel
theorem d_Statement_means_5 : decode b_Statement_means 5 = .ok (.if_icmp .eq 25, 3) := by decide +kernel
theorem d_Statement_means_8 : decode b_Statement_means 8 = .ok (.aload_n 0, 1) := by decide +kernel
theorem d_Statement_means_9 : decode b_Statement_means 9 = .ok (.getfield 20, 3) := by decide +kernel
theorem d_Statement_means_12 : decode b_Statement_means 12 = .ok (.iload_n 1, 1) := by decide +kernel
theorem d_Statement_means_13 : decode b_Statement_means 13 = .ok (.if_icmp .eq 17, 3) := by decide +kernel
theorem d_Statement_means_16 : decode b_Statement_means 16 = .ok (.aload_n 0, 1) := by decide +kernel
theorem d_Statement_means_17 : decode b_Statement_means 17 = .ok (.getfield 20, 3) := by decide +kernel
theorem d_Statement_means_20 : decode b_Statement_means 20 = .ok (.iload_n 1, 1) := by decide +kernel
theorem d_Statement_means_21 : decode b_Statement_means 21 = .ok (.bipush 100, 2) := by decide +kernel
theorem d_Statement_means_23 : decode b_Statement_means 23 = .ok (.isub, 1) := by decide +kernel
theorem d_Statement_means_24 : decode b_Statement_means 24 = .ok (.bipush 10, 2) := by decide +kernel
theorem d_Statement_means_26 : decode b_Statement_means 26 = .ok (.idiv, 1) := by decide +kernel
theorem d_Statement_means_27 : decode b_Statement_means 27 = .ok (.if_icmp .ne 7, 3) := by decide +kernel
theorem d_Statement_means_30 : decode b_Statement_means 30 = .ok (.iconst 1, 1) := by decide +kernel
theorem d_Statement_means_31 : decode b_Statement_means 31 = .ok (.goto 4, 3) := by decide +kernel
theorem d_Statement_means_34 : decode b_Statement_means 34 = .ok (.iconst 0, 1) := by decide +kernel
theorem d_Statement_means_35 : decode b_Statement_means 35 = .ok (.ireturn, 1) := by decide +kernel
theorem d_Statement_names_0 : decode b_Statement_names 0 = .ok (.aload_n 0, 1) := by decide +kernel
theorem d_Statement_names_1 : decode b_Statement_names 1 = .ok (.getfield 20, 3) := by decide +kernel
theorem d_Statement_names_4 : decode b_Statement_names 4 = .ok (.iload_n 1, 1) := by decide +kernel
theorem d_Statement_names_5 : decode b_Statement_names 5 = .ok (.if_icmp .ne 7, 3) := by decide +kernel
theorem d_Statement_names_8 : decode b_Statement_names 8 = .ok (.iconst 1, 1) := by decide +kernel
theorem d_Statement_names_9 : decode b_Statement_names 9 = .ok (.goto 4, 3) := by decide +kernel
theorem d_Statement_names_12 : decode b_Statement_names 12 = .ok (.iconst 0, 1) := by decide +kernel
theorem d_Statement_names_13 : decode b_Statement_names 13 = .ok (.ireturn, 1) := by decide +kernel
theorem d_Statement_suits_0 : decode b_Statement_suits 0 = .ok (.aload_n 0, 1) := by decide +kernel
theorem d_Statement_suits_1 : decode b_Statement_suits 1 = .ok (.getfield 9, 3) := by decide +kernel
theorem d_Statement_suits_4 : decode b_Statement_suits 4 = .ok (.iconst 2, 1) := by decide +kernel
theorem d_Statement_suits_5 : decode b_Statement_suits 5 = .ok (.iand, 1) := by decide +kernel
theorem d_Statement_suits_6 : decode b_Statement_suits 6 = .ok (.ifCond .eq 7, 3) := by decide +kernel
theorem d_Statement_suits_9 : decode b_Statement_suits 9 = .ok (.iconst 1, 1) := by decide +kernel
theorem d_Statement_suits_10 : decode b_Statement_suits 10 = .ok (.goto 4, 3) := by decide +kernel
theorem d_Statement_suits_13 : decode b_Statement_suits 13 = .ok (.iconst 0, 1) := by decide +kernel
theorem d_Statement_suits_14 : decode b_Statement_suits 14 = .ok (.istore 7, 2) := by decide +kernel
theorem d_Statement_suits_16 : decode b_Statement_suits 16 = .ok (.aload_n 0, 1) := by decide +kernel
theorem d_Statement_suits_17 : decode b_Statement_suits 17 = .ok (.getfield 9, 3) := by decide +kernel
theorem d_Statement_suits_20 : decode b_Statement_suits 20 = .ok (.iconst 4, 1) := by decide +kernel
theorem d_Statement_suits_21 : decode b_Statement_suits 21 = .ok (.iand, 1) := by decide +kernel
theorem d_Statement_suits_22 : decode b_Statement_suits 22 = .ok (.ifCond .eq 7, 3) := by decide +kernel
theorem d_Statement_suits_25 : decode b_Statement_suits 25 = .ok (.iconst 1, 1) := by decide +kernel
theorem d_Statement_suits_26 : decode b_Statement_suits 26 = .ok (.goto 4, 3) := by decide +kernel
theorem d_Statement_suits_29 : decode b_Statement_suits 29 = .ok (.iconst 0, 1) := by decide +kernel
theorem d_Statement_suits_30 : decode b_Statement_suits 30 = .ok (.istore 8, 2) := by decide +kernel
theorem d_Statement_suits_32 : decode b_Statement_suits 32 = .ok (.aload_n 0, 1) := by decide +kernel
theorem d_Statement_suits_33 : decode b_Statement_suits 33 = .ok (.iload_n 1, 1) := by decide +kernel
theorem d_Statement_suits_34 : decode b_Statement_suits 34 = .ok (.invokevirtual 27, 3) := by decide +kernel
theorem d_Statement_suits_37 : decode b_Statement_suits 37 = .ok (.ifCond .eq 59, 3) := by decide +kernel
theorem d_Statement_suits_40 : decode b_Statement_suits 40 = .ok (.aload_n 0, 1) := by decide +kernel
theorem d_Statement_suits_41 : decode b_Statement_suits 41 = .ok (.getfield 13, 3) := by decide +kernel
theorem d_Statement_suits_44 : decode b_Statement_suits 44 = .ok (.lload_n 2, 1) := by decide +kernel
theorem d_Statement_suits_45 : decode b_Statement_suits 45 = .ok (.iconst 1, 1) := by decide +kernel
theorem d_Statement_suits_46 : decode b_Statement_suits 46 = .ok (.aload 6, 2) := by decide +kernel
theorem d_Statement_suits_48 : decode b_Statement_suits 48 = .ok (.invokestatic 31, 3) := by decide +kernel
theorem d_Statement_suits_51 : decode b_Statement_suits 51 = .ok (.iload 7, 2) := by decide +kernel
theorem d_Statement_suits_53 : decode b_Statement_suits 53 = .ok (.if_icmp .eq 43, 3) := by decide +kernel
theorem d_Statement_suits_56 : decode b_Statement_suits 56 = .ok (.aload_n 0, 1) := by decide +kernel
theorem d_Statement_suits_57 : decode b_Statement_suits 57 = .ok (.getfield 17, 3) := by decide +kernel
theorem d_Statement_suits_60 : decode b_Statement_suits 60 = .ok (.lload 4, 2) := by decide +kernel
theorem d_Statement_suits_62 : decode b_Statement_suits 62 = .ok (.iconst 0, 1) := by decide +kernel
theorem d_Statement_suits_63 : decode b_Statement_suits 63 = .ok (.aload 6, 2) := by decide +kernel
theorem d_Statement_suits_65 : decode b_Statement_suits 65 = .ok (.invokestatic 31, 3) := by decide +kernel
theorem d_Statement_suits_68 : decode b_Statement_suits 68 = .ok (.iload 8, 2) := by decide +kernel
theorem d_Statement_suits_70 : decode b_Statement_suits 70 = .ok (.if_icmp .eq 26, 3) := by decide +kernel
theorem d_Statement_suits_73 : decode b_Statement_suits 73 = .ok (.aload_n 0, 1) := by decide +kernel
theorem d_Statement_suits_74 : decode b_Statement_suits 74 = .ok (.getfield 23, 3) := by decide +kernel
theorem d_Statement_suits_77 : decode b_Statement_suits 77 = .ok (.ifnull 15, 3) := by decide +kernel
theorem d_Statement_suits_80 : decode b_Statement_suits 80 = .ok (.aload_n 0, 1) := by decide +kernel
theorem d_Statement_suits_81 : decode b_Statement_suits 81 = .ok (.getfield 23, 3) := by decide +kernel
theorem d_Statement_suits_84 : decode b_Statement_suits 84 = .ok (.aload 6, 2) := by decide +kernel
theorem d_Statement_suits_86 : decode b_Statement_suits 86 = .ok (.invokevirtual 37, 3) := by decide +kernel
theorem d_Statement_suits_89 : decode b_Statement_suits 89 = .ok (.ifCond .eq 7, 3) := by decide +kernel
theorem d_Statement_suits_92 : decode b_Statement_suits 92 = .ok (.iconst 1, 1) := by decide +kernel
theorem d_Statement_suits_93 : decode b_Statement_suits 93 = .ok (.goto 4, 3) := by decide +kernel
theorem d_Statement_suits_96 : decode b_Statement_suits 96 = .ok (.iconst 0, 1) := by decide +kernel
theorem d_Statement_suits_97 : decode b_Statement_suits 97 = .ok (.ireturn, 1) := by decide +kernel
theorem d_Statement_whoOfUser_0 : decode b_Statement_whoOfUser 0 = .ok (.bipush 100, 2) := by decide +kernel
theorem d_Statement_whoOfUser_2 : decode b_Statement_whoOfUser 2 = .ok (.bipush 10, 2) := by decide +kernel
theorem d_Statement_whoOfUser_4 : decode b_Statement_whoOfUser 4 = .ok (.iload_n 0, 1) := by decide +kernel
theorem d_Statement_whoOfUser_5 : decode b_Statement_whoOfUser 5 = .ok (.imul, 1) := by decide +kernel
theorem d_Statement_whoOfUser_6 : decode b_Statement_whoOfUser 6 = .ok (.iadd, 1) := by decide +kernel
theorem d_Statement_whoOfUser_7 : decode b_Statement_whoOfUser 7 = .ok (.iload_n 1, 1) := by decide +kernel
theorem d_Statement_whoOfUser_8 : decode b_Statement_whoOfUser 8 = .ok (.iadd, 1) := by decide +kernel
theorem d_Statement_whoOfUser_9 : decode b_Statement_whoOfUser 9 = .ok (.ireturn, 1) := by decide +kernel
theorem d_Test_hasPrefix_0 : decode b_Test_hasPrefix 0 = .ok (.aload_n 0, 1) := by decide +kernel
theorem d_Test_hasPrefix_1 : decode b_Test_hasPrefix 1 = .ok (.getfield 16, 3) := by decide +kernel
theorem d_Test_hasPrefix_4 : decode b_Test_hasPrefix 4 = .ok (.bipush 32, 2) := by decide +kernel
theorem d_Test_hasPrefix_6 : decode b_Test_hasPrefix 6 = .ok (.lushr, 1) := by decide +kernel
theorem d_Test_hasPrefix_7 : decode b_Test_hasPrefix 7 = .ok (.l2i, 1) := by decide +kernel
theorem d_Test_hasPrefix_8 : decode b_Test_hasPrefix 8 = .ok (.bipush 63, 2) := by decide +kernel
theorem d_Test_hasPrefix_10 : decode b_Test_hasPrefix 10 = .ok (.iand, 1) := by decide +kernel
theorem d_Test_hasPrefix_11 : decode b_Test_hasPrefix 11 = .ok (.bipush 32, 2) := by decide +kernel
theorem d_Test_hasPrefix_13 : decode b_Test_hasPrefix 13 = .ok (.invokestatic 53, 3) := by decide +kernel
theorem d_Test_hasPrefix_16 : decode b_Test_hasPrefix 16 = .ok (.istore_n 3, 1) := by decide +kernel
theorem d_Test_hasPrefix_17 : decode b_Test_hasPrefix 17 = .ok (.lload_n 1, 1) := by decide +kernel
theorem d_Test_hasPrefix_18 : decode b_Test_hasPrefix 18 = .ok (.aload_n 0, 1) := by decide +kernel
theorem d_Test_hasPrefix_19 : decode b_Test_hasPrefix 19 = .ok (.getfield 16, 3) := by decide +kernel
theorem d_Test_hasPrefix_22 : decode b_Test_hasPrefix 22 = .ok (.lxor, 1) := by decide +kernel
theorem d_Test_hasPrefix_23 : decode b_Test_hasPrefix 23 = .ok (.ldc2_w 59, 3) := by decide +kernel
theorem d_Test_hasPrefix_26 : decode b_Test_hasPrefix 26 = .ok (.land, 1) := by decide +kernel
theorem d_Test_hasPrefix_27 : decode b_Test_hasPrefix 27 = .ok (.lstore 4, 2) := by decide +kernel
theorem d_Test_hasPrefix_29 : decode b_Test_hasPrefix 29 = .ok (.lload 4, 2) := by decide +kernel
theorem d_Test_hasPrefix_31 : decode b_Test_hasPrefix 31 = .ok (.bipush 32, 2) := by decide +kernel
theorem d_Test_hasPrefix_33 : decode b_Test_hasPrefix 33 = .ok (.iload_n 3, 1) := by decide +kernel
theorem d_Test_hasPrefix_34 : decode b_Test_hasPrefix 34 = .ok (.isub, 1) := by decide +kernel
theorem d_Test_hasPrefix_35 : decode b_Test_hasPrefix 35 = .ok (.lushr, 1) := by decide +kernel
theorem d_Test_hasPrefix_36 : decode b_Test_hasPrefix 36 = .ok (.lconst 0, 1) := by decide +kernel
theorem d_Test_hasPrefix_37 : decode b_Test_hasPrefix 37 = .ok (.lcmp, 1) := by decide +kernel
theorem d_Test_hasPrefix_38 : decode b_Test_hasPrefix 38 = .ok (.ifCond .ne 7, 3) := by decide +kernel
theorem d_Test_hasPrefix_41 : decode b_Test_hasPrefix 41 = .ok (.iconst 1, 1) := by decide +kernel
theorem d_Test_hasPrefix_42 : decode b_Test_hasPrefix 42 = .ok (.goto 4, 3) := by decide +kernel
theorem d_Test_hasPrefix_45 : decode b_Test_hasPrefix 45 = .ok (.iconst 0, 1) := by decide +kernel
theorem d_Test_hasPrefix_46 : decode b_Test_hasPrefix 46 = .ok (.ireturn, 1) := by decide +kernel
theorem d_Test_init_0 : decode b_Test_init 0 = .ok (.aload_n 0, 1) := by decide +kernel
theorem d_Test_init_1 : decode b_Test_init 1 = .ok (.iconst 1, 1) := by decide +kernel
theorem d_Test_init_2 : decode b_Test_init 2 = .ok (.invokespecial 1, 3) := by decide +kernel
theorem d_Test_init_5 : decode b_Test_init 5 = .ok (.aload_n 0, 1) := by decide +kernel
theorem d_Test_init_6 : decode b_Test_init 6 = .ok (.iload_n 1, 1) := by decide +kernel
theorem d_Test_init_7 : decode b_Test_init 7 = .ok (.putfield 7, 3) := by decide +kernel
theorem d_Test_init_10 : decode b_Test_init 10 = .ok (.aload_n 0, 1) := by decide +kernel
theorem d_Test_init_11 : decode b_Test_init 11 = .ok (.iload_n 2, 1) := by decide +kernel
theorem d_Test_init_12 : decode b_Test_init 12 = .ok (.putfield 13, 3) := by decide +kernel
theorem d_Test_init_15 : decode b_Test_init 15 = .ok (.aload_n 0, 1) := by decide +kernel
theorem d_Test_init_16 : decode b_Test_init 16 = .ok (.lload_n 3, 1) := by decide +kernel
theorem d_Test_init_17 : decode b_Test_init 17 = .ok (.putfield 16, 3) := by decide +kernel
theorem d_Test_init_20 : decode b_Test_init 20 = .ok (.aload_n 0, 1) := by decide +kernel
theorem d_Test_init_21 : decode b_Test_init 21 = .ok (.iload 5, 2) := by decide +kernel
theorem d_Test_init_23 : decode b_Test_init 23 = .ok (.putfield 20, 3) := by decide +kernel
theorem d_Test_init_26 : decode b_Test_init 26 = .ok (.return_, 1) := by decide +kernel
theorem d_Test_isMet_0 : decode b_Test_isMet 0 = .ok (.aload_n 0, 1) := by decide +kernel
theorem d_Test_isMet_1 : decode b_Test_isMet 1 = .ok (.getfield 20, 3) := by decide +kernel
theorem d_Test_isMet_4 : decode b_Test_isMet 4 = .ok (.iconst 1, 1) := by decide +kernel
theorem d_Test_isMet_5 : decode b_Test_isMet 5 = .ok (.iand, 1) := by decide +kernel
theorem d_Test_isMet_6 : decode b_Test_isMet 6 = .ok (.ifCond .eq 7, 3) := by decide +kernel
theorem d_Test_isMet_9 : decode b_Test_isMet 9 = .ok (.iconst 1, 1) := by decide +kernel
theorem d_Test_isMet_10 : decode b_Test_isMet 10 = .ok (.goto 4, 3) := by decide +kernel
theorem d_Test_isMet_13 : decode b_Test_isMet 13 = .ok (.iconst 0, 1) := by decide +kernel
theorem d_Test_isMet_14 : decode b_Test_isMet 14 = .ok (.istore_n 2, 1) := by decide +kernel
theorem d_Test_isMet_15 : decode b_Test_isMet 15 = .ok (.aload_n 0, 1) := by decide +kernel
theorem d_Test_isMet_16 : decode b_Test_isMet 16 = .ok (.getfield 20, 3) := by decide +kernel
theorem d_Test_isMet_19 : decode b_Test_isMet 19 = .ok (.iconst 4, 1) := by decide +kernel
theorem d_Test_isMet_20 : decode b_Test_isMet 20 = .ok (.iand, 1) := by decide +kernel
theorem d_Test_isMet_21 : decode b_Test_isMet 21 = .ok (.ifCond .eq 7, 3) := by decide +kernel
theorem d_Test_isMet_24 : decode b_Test_isMet 24 = .ok (.iconst 1, 1) := by decide +kernel
theorem d_Test_isMet_25 : decode b_Test_isMet 25 = .ok (.goto 4, 3) := by decide +kernel
theorem d_Test_isMet_28 : decode b_Test_isMet 28 = .ok (.iconst 0, 1) := by decide +kernel
theorem d_Test_isMet_29 : decode b_Test_isMet 29 = .ok (.istore_n 3, 1) := by decide +kernel
theorem d_Test_isMet_30 : decode b_Test_isMet 30 = .ok (.aload_n 1, 1) := by decide +kernel
theorem d_Test_isMet_31 : decode b_Test_isMet 31 = .ok (.aload_n 0, 1) := by decide +kernel
theorem d_Test_isMet_32 : decode b_Test_isMet 32 = .ok (.getfield 13, 3) := by decide +kernel
theorem d_Test_isMet_35 : decode b_Test_isMet 35 = .ok (.invokevirtual 23, 3) := by decide +kernel
theorem d_Test_isMet_38 : decode b_Test_isMet 38 = .ok (.istore 4, 2) := by decide +kernel
theorem d_Test_isMet_40 : decode b_Test_isMet 40 = .ok (.aload_n 0, 1) := by decide +kernel
theorem d_Test_isMet_41 : decode b_Test_isMet 41 = .ok (.getfield 7, 3) := by decide +kernel
theorem d_Test_isMet_44 : decode b_Test_isMet 44 = .ok (.bipush 7, 2) := by decide +kernel
theorem d_Test_isMet_46 : decode b_Test_isMet 46 = .ok (.if_icmp .ne 45, 3) := by decide +kernel
theorem d_Test_isMet_49 : decode b_Test_isMet 49 = .ok (.iload 4, 2) := by decide +kernel
theorem d_Test_isMet_51 : decode b_Test_isMet 51 = .ok (.ifCond .ne 7, 3) := by decide +kernel
theorem d_Test_isMet_54 : decode b_Test_isMet 54 = .ok (.iconst 1, 1) := by decide +kernel
theorem d_Test_isMet_55 : decode b_Test_isMet 55 = .ok (.goto 4, 3) := by decide +kernel
theorem d_Test_isMet_58 : decode b_Test_isMet 58 = .ok (.iconst 0, 1) := by decide +kernel
theorem d_Test_isMet_59 : decode b_Test_isMet 59 = .ok (.aload_n 0, 1) := by decide +kernel
theorem d_Test_isMet_60 : decode b_Test_isMet 60 = .ok (.getfield 16, 3) := by decide +kernel
theorem d_Test_isMet_63 : decode b_Test_isMet 63 = .ok (.lconst 0, 1) := by decide +kernel
theorem d_Test_isMet_64 : decode b_Test_isMet 64 = .ok (.lcmp, 1) := by decide +kernel
theorem d_Test_isMet_65 : decode b_Test_isMet 65 = .ok (.ifCond .eq 7, 3) := by decide +kernel
theorem d_Test_isMet_68 : decode b_Test_isMet 68 = .ok (.iconst 1, 1) := by decide +kernel
theorem d_Test_isMet_69 : decode b_Test_isMet 69 = .ok (.goto 4, 3) := by decide +kernel
theorem d_Test_isMet_72 : decode b_Test_isMet 72 = .ok (.iconst 0, 1) := by decide +kernel
theorem d_Test_isMet_73 : decode b_Test_isMet 73 = .ok (.if_icmp .ne 7, 3) := by decide +kernel
theorem d_Test_isMet_76 : decode b_Test_isMet 76 = .ok (.iconst 1, 1) := by decide +kernel
theorem d_Test_isMet_77 : decode b_Test_isMet 77 = .ok (.goto 4, 3) := by decide +kernel
theorem d_Test_isMet_80 : decode b_Test_isMet 80 = .ok (.iconst 0, 1) := by decide +kernel
theorem d_Test_isMet_81 : decode b_Test_isMet 81 = .ok (.iload_n 2, 1) := by decide +kernel
theorem d_Test_isMet_82 : decode b_Test_isMet 82 = .ok (.if_icmp .eq 7, 3) := by decide +kernel
theorem d_Test_isMet_85 : decode b_Test_isMet 85 = .ok (.iconst 1, 1) := by decide +kernel
theorem d_Test_isMet_86 : decode b_Test_isMet 86 = .ok (.goto 4, 3) := by decide +kernel
theorem d_Test_isMet_89 : decode b_Test_isMet 89 = .ok (.iconst 0, 1) := by decide +kernel
theorem d_Test_isMet_90 : decode b_Test_isMet 90 = .ok (.ireturn, 1) := by decide +kernel
theorem d_Test_isMet_91 : decode b_Test_isMet 91 = .ok (.iload 4, 2) := by decide +kernel
theorem d_Test_isMet_93 : decode b_Test_isMet 93 = .ok (.ifCond .ne 16, 3) := by decide +kernel
theorem d_Test_isMet_96 : decode b_Test_isMet 96 = .ok (.aload_n 0, 1) := by decide +kernel
theorem d_Test_isMet_97 : decode b_Test_isMet 97 = .ok (.getfield 20, 3) := by decide +kernel
theorem d_Test_isMet_100 : decode b_Test_isMet 100 = .ok (.ifCond .eq 7, 3) := by decide +kernel
theorem d_Test_isMet_103 : decode b_Test_isMet 103 = .ok (.iconst 1, 1) := by decide +kernel
theorem d_Test_isMet_104 : decode b_Test_isMet 104 = .ok (.goto 4, 3) := by decide +kernel
theorem d_Test_isMet_107 : decode b_Test_isMet 107 = .ok (.iconst 0, 1) := by decide +kernel
theorem d_Test_isMet_108 : decode b_Test_isMet 108 = .ok (.ireturn, 1) := by decide +kernel
theorem d_Test_isMet_109 : decode b_Test_isMet 109 = .ok (.iconst 0, 1) := by decide +kernel
theorem d_Test_isMet_110 : decode b_Test_isMet 110 = .ok (.istore 5, 2) := by decide +kernel
theorem d_Test_isMet_112 : decode b_Test_isMet 112 = .ok (.iload 5, 2) := by decide +kernel
theorem d_Test_isMet_114 : decode b_Test_isMet 114 = .ok (.iload 4, 2) := by decide +kernel
theorem d_Test_isMet_116 : decode b_Test_isMet 116 = .ok (.if_icmp .ge 51, 3) := by decide +kernel
theorem d_Test_isMet_119 : decode b_Test_isMet 119 = .ok (.aload_n 0, 1) := by decide +kernel
theorem d_Test_isMet_120 : decode b_Test_isMet 120 = .ok (.aload_n 1, 1) := by decide +kernel
theorem d_Test_isMet_121 : decode b_Test_isMet 121 = .ok (.aload_n 0, 1) := by decide +kernel
theorem d_Test_isMet_122 : decode b_Test_isMet 122 = .ok (.getfield 13, 3) := by decide +kernel
theorem d_Test_isMet_125 : decode b_Test_isMet 125 = .ok (.iload 5, 2) := by decide +kernel
theorem d_Test_isMet_127 : decode b_Test_isMet 127 = .ok (.invokevirtual 29, 3) := by decide +kernel
theorem d_Test_isMet_130 : decode b_Test_isMet 130 = .ok (.aload_n 1, 1) := by decide +kernel
theorem d_Test_isMet_131 : decode b_Test_isMet 131 = .ok (.invokevirtual 33, 3) := by decide +kernel
theorem d_Test_isMet_134 : decode b_Test_isMet 134 = .ok (.iload_n 2, 1) := by decide +kernel
theorem d_Test_isMet_135 : decode b_Test_isMet 135 = .ok (.if_icmp .eq 7, 3) := by decide +kernel
theorem d_Test_isMet_138 : decode b_Test_isMet 138 = .ok (.iconst 1, 1) := by decide +kernel
theorem d_Test_isMet_139 : decode b_Test_isMet 139 = .ok (.goto 4, 3) := by decide +kernel
theorem d_Test_isMet_142 : decode b_Test_isMet 142 = .ok (.iconst 0, 1) := by decide +kernel
theorem d_Test_isMet_143 : decode b_Test_isMet 143 = .ok (.istore 6, 2) := by decide +kernel
theorem d_Test_isMet_145 : decode b_Test_isMet 145 = .ok (.iload 6, 2) := by decide +kernel
theorem d_Test_isMet_147 : decode b_Test_isMet 147 = .ok (.iload_n 3, 1) := by decide +kernel
theorem d_Test_isMet_148 : decode b_Test_isMet 148 = .ok (.if_icmp .eq 13, 3) := by decide +kernel
theorem d_Test_isMet_151 : decode b_Test_isMet 151 = .ok (.iload_n 3, 1) := by decide +kernel
theorem d_Test_isMet_152 : decode b_Test_isMet 152 = .ok (.ifCond .ne 7, 3) := by decide +kernel
theorem d_Test_isMet_155 : decode b_Test_isMet 155 = .ok (.iconst 1, 1) := by decide +kernel
theorem d_Test_isMet_156 : decode b_Test_isMet 156 = .ok (.goto 4, 3) := by decide +kernel
theorem d_Test_isMet_159 : decode b_Test_isMet 159 = .ok (.iconst 0, 1) := by decide +kernel
theorem d_Test_isMet_160 : decode b_Test_isMet 160 = .ok (.ireturn, 1) := by decide +kernel
theorem d_Test_isMet_161 : decode b_Test_isMet 161 = .ok (.iinc 5 1, 3) := by decide +kernel
theorem d_Test_isMet_164 : decode b_Test_isMet 164 = .ok (.goto (-52), 3) := by decide +kernel
theorem d_Test_isMet_167 : decode b_Test_isMet 167 = .ok (.iload_n 3, 1) := by decide +kernel
theorem d_Test_isMet_168 : decode b_Test_isMet 168 = .ok (.ireturn, 1) := by decide +kernel
theorem d_Test_saysYes_0 : decode b_Test_saysYes 0 = .ok (.aload_n 0, 1) := by decide +kernel
theorem d_Test_saysYes_1 : decode b_Test_saysYes 1 = .ok (.getfield 7, 3) := by decide +kernel
theorem d_Test_saysYes_4 : decode b_Test_saysYes 4 = .ok (.tableswitch 149 0 6 #[44, 59, 68, 79, 94, 109, 115], 44) := by decide +kernel
theorem d_Test_saysYes_48 : decode b_Test_saysYes 48 = .ok (.lload_n 1, 1) := by decide +kernel
theorem d_Test_saysYes_49 : decode b_Test_saysYes 49 = .ok (.aload_n 0, 1) := by decide +kernel
theorem d_Test_saysYes_50 : decode b_Test_saysYes 50 = .ok (.getfield 16, 3) := by decide +kernel
theorem d_Test_saysYes_53 : decode b_Test_saysYes 53 = .ok (.lcmp, 1) := by decide +kernel
theorem d_Test_saysYes_54 : decode b_Test_saysYes 54 = .ok (.ifCond .ne 7, 3) := by decide +kernel
theorem d_Test_saysYes_57 : decode b_Test_saysYes 57 = .ok (.iconst 1, 1) := by decide +kernel
theorem d_Test_saysYes_58 : decode b_Test_saysYes 58 = .ok (.goto 4, 3) := by decide +kernel
theorem d_Test_saysYes_61 : decode b_Test_saysYes 61 = .ok (.iconst 0, 1) := by decide +kernel
theorem d_Test_saysYes_62 : decode b_Test_saysYes 62 = .ok (.ireturn, 1) := by decide +kernel
theorem d_Test_saysYes_63 : decode b_Test_saysYes 63 = .ok (.lload_n 1, 1) := by decide +kernel
theorem d_Test_saysYes_64 : decode b_Test_saysYes 64 = .ok (.aload_n 0, 1) := by decide +kernel
theorem d_Test_saysYes_65 : decode b_Test_saysYes 65 = .ok (.getfield 16, 3) := by decide +kernel
theorem d_Test_saysYes_68 : decode b_Test_saysYes 68 = .ok (.invokestatic 37, 3) := by decide +kernel
theorem d_Test_saysYes_71 : decode b_Test_saysYes 71 = .ok (.ireturn, 1) := by decide +kernel
theorem d_Test_saysYes_72 : decode b_Test_saysYes 72 = .ok (.aload_n 0, 1) := by decide +kernel
theorem d_Test_saysYes_73 : decode b_Test_saysYes 73 = .ok (.getfield 16, 3) := by decide +kernel
theorem d_Test_saysYes_76 : decode b_Test_saysYes 76 = .ok (.lload_n 1, 1) := by decide +kernel
theorem d_Test_saysYes_77 : decode b_Test_saysYes 77 = .ok (.iconst 0, 1) := by decide +kernel
theorem d_Test_saysYes_78 : decode b_Test_saysYes 78 = .ok (.aload_n 3, 1) := by decide +kernel
theorem d_Test_saysYes_79 : decode b_Test_saysYes 79 = .ok (.invokestatic 43, 3) := by decide +kernel
theorem d_Test_saysYes_82 : decode b_Test_saysYes 82 = .ok (.ireturn, 1) := by decide +kernel
theorem d_Test_saysYes_83 : decode b_Test_saysYes 83 = .ok (.lload_n 1, 1) := by decide +kernel
theorem d_Test_saysYes_84 : decode b_Test_saysYes 84 = .ok (.aload_n 0, 1) := by decide +kernel
theorem d_Test_saysYes_85 : decode b_Test_saysYes 85 = .ok (.getfield 16, 3) := by decide +kernel
theorem d_Test_saysYes_88 : decode b_Test_saysYes 88 = .ok (.lcmp, 1) := by decide +kernel
theorem d_Test_saysYes_89 : decode b_Test_saysYes 89 = .ok (.ifCond .ge 7, 3) := by decide +kernel
theorem d_Test_saysYes_92 : decode b_Test_saysYes 92 = .ok (.iconst 1, 1) := by decide +kernel
theorem d_Test_saysYes_93 : decode b_Test_saysYes 93 = .ok (.goto 4, 3) := by decide +kernel
theorem d_Test_saysYes_96 : decode b_Test_saysYes 96 = .ok (.iconst 0, 1) := by decide +kernel
theorem d_Test_saysYes_97 : decode b_Test_saysYes 97 = .ok (.ireturn, 1) := by decide +kernel
theorem d_Test_saysYes_98 : decode b_Test_saysYes 98 = .ok (.lload_n 1, 1) := by decide +kernel
theorem d_Test_saysYes_99 : decode b_Test_saysYes 99 = .ok (.aload_n 0, 1) := by decide +kernel
theorem d_Test_saysYes_100 : decode b_Test_saysYes 100 = .ok (.getfield 16, 3) := by decide +kernel
theorem d_Test_saysYes_103 : decode b_Test_saysYes 103 = .ok (.lcmp, 1) := by decide +kernel
theorem d_Test_saysYes_104 : decode b_Test_saysYes 104 = .ok (.ifCond .gt 7, 3) := by decide +kernel
theorem d_Test_saysYes_107 : decode b_Test_saysYes 107 = .ok (.iconst 1, 1) := by decide +kernel
theorem d_Test_saysYes_108 : decode b_Test_saysYes 108 = .ok (.goto 4, 3) := by decide +kernel
theorem d_Test_saysYes_111 : decode b_Test_saysYes 111 = .ok (.iconst 0, 1) := by decide +kernel
theorem d_Test_saysYes_112 : decode b_Test_saysYes 112 = .ok (.ireturn, 1) := by decide +kernel
theorem d_Test_saysYes_113 : decode b_Test_saysYes 113 = .ok (.aload_n 0, 1) := by decide +kernel
theorem d_Test_saysYes_114 : decode b_Test_saysYes 114 = .ok (.lload_n 1, 1) := by decide +kernel
theorem d_Test_saysYes_115 : decode b_Test_saysYes 115 = .ok (.invokevirtual 49, 3) := by decide +kernel
theorem d_Test_saysYes_118 : decode b_Test_saysYes 118 = .ok (.ireturn, 1) := by decide +kernel
theorem d_Test_saysYes_119 : decode b_Test_saysYes 119 = .ok (.lload_n 1, 1) := by decide +kernel
theorem d_Test_saysYes_120 : decode b_Test_saysYes 120 = .ok (.lconst 0, 1) := by decide +kernel
theorem d_Test_saysYes_121 : decode b_Test_saysYes 121 = .ok (.lcmp, 1) := by decide +kernel
theorem d_Test_saysYes_122 : decode b_Test_saysYes 122 = .ok (.ifCond .ne 7, 3) := by decide +kernel
theorem d_Test_saysYes_125 : decode b_Test_saysYes 125 = .ok (.iconst 1, 1) := by decide +kernel
theorem d_Test_saysYes_126 : decode b_Test_saysYes 126 = .ok (.goto 4, 3) := by decide +kernel
theorem d_Test_saysYes_129 : decode b_Test_saysYes 129 = .ok (.iconst 0, 1) := by decide +kernel
theorem d_Test_saysYes_130 : decode b_Test_saysYes 130 = .ok (.aload_n 0, 1) := by decide +kernel
theorem d_Test_saysYes_131 : decode b_Test_saysYes 131 = .ok (.getfield 16, 3) := by decide +kernel
theorem d_Test_saysYes_134 : decode b_Test_saysYes 134 = .ok (.lconst 0, 1) := by decide +kernel
theorem d_Test_saysYes_135 : decode b_Test_saysYes 135 = .ok (.lcmp, 1) := by decide +kernel
theorem d_Test_saysYes_136 : decode b_Test_saysYes 136 = .ok (.ifCond .ne 7, 3) := by decide +kernel
theorem d_Test_saysYes_139 : decode b_Test_saysYes 139 = .ok (.iconst 1, 1) := by decide +kernel
theorem d_Test_saysYes_140 : decode b_Test_saysYes 140 = .ok (.goto 4, 3) := by decide +kernel
theorem d_Test_saysYes_143 : decode b_Test_saysYes 143 = .ok (.iconst 0, 1) := by decide +kernel
theorem d_Test_saysYes_144 : decode b_Test_saysYes 144 = .ok (.if_icmp .ne 7, 3) := by decide +kernel
theorem d_Test_saysYes_147 : decode b_Test_saysYes 147 = .ok (.iconst 1, 1) := by decide +kernel
theorem d_Test_saysYes_148 : decode b_Test_saysYes 148 = .ok (.goto 4, 3) := by decide +kernel
theorem d_Test_saysYes_151 : decode b_Test_saysYes 151 = .ok (.iconst 0, 1) := by decide +kernel
theorem d_Test_saysYes_152 : decode b_Test_saysYes 152 = .ok (.ireturn, 1) := by decide +kernel
theorem d_Test_saysYes_153 : decode b_Test_saysYes 153 = .ok (.iconst 0, 1) := by decide +kernel
theorem d_Test_saysYes_154 : decode b_Test_saysYes 154 = .ok (.ireturn, 1) := by decide +kernel
theorem d_Text_charAt_0 : decode b_Text_charAt 0 = .ok (.iload_n 2, 1) := by decide +kernel
theorem d_Text_charAt_1 : decode b_Text_charAt 1 = .ok (.ifCond .lt 9, 3) := by decide +kernel
theorem d_Text_charAt_4 : decode b_Text_charAt 4 = .ok (.iload_n 2, 1) := by decide +kernel
theorem d_Text_charAt_5 : decode b_Text_charAt 5 = .ok (.bipush 8, 2) := by decide +kernel
theorem d_Text_charAt_7 : decode b_Text_charAt 7 = .ok (.if_icmp .lt 7, 3) := by decide +kernel
theorem d_Text_charAt_10 : decode b_Text_charAt 10 = .ok (.iconst 0, 1) := by decide +kernel
theorem d_Text_charAt_11 : decode b_Text_charAt 11 = .ok (.goto 14, 3) := by decide +kernel
theorem d_Text_charAt_14 : decode b_Text_charAt 14 = .ok (.lload_n 0, 1) := by decide +kernel
theorem d_Text_charAt_15 : decode b_Text_charAt 15 = .ok (.bipush 8, 2) := by decide +kernel
theorem d_Text_charAt_17 : decode b_Text_charAt 17 = .ok (.iload_n 2, 1) := by decide +kernel
theorem d_Text_charAt_18 : decode b_Text_charAt 18 = .ok (.imul, 1) := by decide +kernel
theorem d_Text_charAt_19 : decode b_Text_charAt 19 = .ok (.lushr, 1) := by decide +kernel
theorem d_Text_charAt_20 : decode b_Text_charAt 20 = .ok (.l2i, 1) := by decide +kernel
theorem d_Text_charAt_21 : decode b_Text_charAt 21 = .ok (.sipush 255, 3) := by decide +kernel
theorem d_Text_charAt_24 : decode b_Text_charAt 24 = .ok (.iand, 1) := by decide +kernel
theorem d_Text_charAt_25 : decode b_Text_charAt 25 = .ok (.ireturn, 1) := by decide +kernel
theorem d_Text_isAlike_0 : decode b_Text_isAlike 0 = .ok (.iload_n 2, 1) := by decide +kernel
theorem d_Text_isAlike_1 : decode b_Text_isAlike 1 = .ok (.ifCond .ne 14, 3) := by decide +kernel
theorem d_Text_isAlike_4 : decode b_Text_isAlike 4 = .ok (.iload_n 0, 1) := by decide +kernel
theorem d_Text_isAlike_5 : decode b_Text_isAlike 5 = .ok (.iload_n 1, 1) := by decide +kernel
theorem d_Text_isAlike_6 : decode b_Text_isAlike 6 = .ok (.if_icmp .ne 7, 3) := by decide +kernel
theorem d_Text_isAlike_9 : decode b_Text_isAlike 9 = .ok (.iconst 1, 1) := by decide +kernel
theorem d_Text_isAlike_10 : decode b_Text_isAlike 10 = .ok (.goto 4, 3) := by decide +kernel
theorem d_Text_isAlike_13 : decode b_Text_isAlike 13 = .ok (.iconst 0, 1) := by decide +kernel
theorem d_Text_isAlike_14 : decode b_Text_isAlike 14 = .ok (.ireturn, 1) := by decide +kernel
theorem d_Text_isAlike_15 : decode b_Text_isAlike 15 = .ok (.iload_n 0, 1) := by decide +kernel
theorem d_Text_isAlike_16 : decode b_Text_isAlike 16 = .ok (.bipush 65, 2) := by decide +kernel
theorem d_Text_isAlike_18 : decode b_Text_isAlike 18 = .ok (.if_icmp .lt 16, 3) := by decide +kernel
theorem d_Text_isAlike_21 : decode b_Text_isAlike 21 = .ok (.iload_n 0, 1) := by decide +kernel
theorem d_Text_isAlike_22 : decode b_Text_isAlike 22 = .ok (.bipush 90, 2) := by decide +kernel
theorem d_Text_isAlike_24 : decode b_Text_isAlike 24 = .ok (.if_icmp .gt 10, 3) := by decide +kernel
theorem d_Text_isAlike_27 : decode b_Text_isAlike 27 = .ok (.iload_n 0, 1) := by decide +kernel
theorem d_Text_isAlike_28 : decode b_Text_isAlike 28 = .ok (.bipush 32, 2) := by decide +kernel
theorem d_Text_isAlike_30 : decode b_Text_isAlike 30 = .ok (.iadd, 1) := by decide +kernel
theorem d_Text_isAlike_31 : decode b_Text_isAlike 31 = .ok (.goto 4, 3) := by decide +kernel
theorem d_Text_isAlike_34 : decode b_Text_isAlike 34 = .ok (.iload_n 0, 1) := by decide +kernel
theorem d_Text_isAlike_35 : decode b_Text_isAlike 35 = .ok (.istore_n 3, 1) := by decide +kernel
theorem d_Text_isAlike_36 : decode b_Text_isAlike 36 = .ok (.iload_n 1, 1) := by decide +kernel
theorem d_Text_isAlike_37 : decode b_Text_isAlike 37 = .ok (.bipush 65, 2) := by decide +kernel
theorem d_Text_isAlike_39 : decode b_Text_isAlike 39 = .ok (.if_icmp .lt 16, 3) := by decide +kernel
theorem d_Text_isAlike_42 : decode b_Text_isAlike 42 = .ok (.iload_n 1, 1) := by decide +kernel
theorem d_Text_isAlike_43 : decode b_Text_isAlike 43 = .ok (.bipush 90, 2) := by decide +kernel
theorem d_Text_isAlike_45 : decode b_Text_isAlike 45 = .ok (.if_icmp .gt 10, 3) := by decide +kernel
theorem d_Text_isAlike_48 : decode b_Text_isAlike 48 = .ok (.iload_n 1, 1) := by decide +kernel
theorem d_Text_isAlike_49 : decode b_Text_isAlike 49 = .ok (.bipush 32, 2) := by decide +kernel
theorem d_Text_isAlike_51 : decode b_Text_isAlike 51 = .ok (.iadd, 1) := by decide +kernel
theorem d_Text_isAlike_52 : decode b_Text_isAlike 52 = .ok (.goto 4, 3) := by decide +kernel
theorem d_Text_isAlike_55 : decode b_Text_isAlike 55 = .ok (.iload_n 1, 1) := by decide +kernel
theorem d_Text_isAlike_56 : decode b_Text_isAlike 56 = .ok (.istore 4, 2) := by decide +kernel
theorem d_Text_isAlike_58 : decode b_Text_isAlike 58 = .ok (.iload_n 3, 1) := by decide +kernel
theorem d_Text_isAlike_59 : decode b_Text_isAlike 59 = .ok (.iload 4, 2) := by decide +kernel
theorem d_Text_isAlike_61 : decode b_Text_isAlike 61 = .ok (.if_icmp .ne 7, 3) := by decide +kernel
theorem d_Text_isAlike_64 : decode b_Text_isAlike 64 = .ok (.iconst 1, 1) := by decide +kernel
theorem d_Text_isAlike_65 : decode b_Text_isAlike 65 = .ok (.goto 4, 3) := by decide +kernel
theorem d_Text_isAlike_68 : decode b_Text_isAlike 68 = .ok (.iconst 0, 1) := by decide +kernel
theorem d_Text_isAlike_69 : decode b_Text_isAlike 69 = .ok (.ireturn, 1) := by decide +kernel
theorem d_Text_isSame_0 : decode b_Text_isSame 0 = .ok (.lload_n 0, 1) := by decide +kernel
theorem d_Text_isSame_1 : decode b_Text_isSame 1 = .ok (.invokestatic 11, 3) := by decide +kernel
theorem d_Text_isSame_4 : decode b_Text_isSame 4 = .ok (.istore 4, 2) := by decide +kernel
theorem d_Text_isSame_6 : decode b_Text_isSame 6 = .ok (.iload 4, 2) := by decide +kernel
theorem d_Text_isSame_8 : decode b_Text_isSame 8 = .ok (.lload_n 2, 1) := by decide +kernel
theorem d_Text_isSame_9 : decode b_Text_isSame 9 = .ok (.invokestatic 11, 3) := by decide +kernel
theorem d_Text_isSame_12 : decode b_Text_isSame 12 = .ok (.if_icmp .eq 5, 3) := by decide +kernel
theorem d_Text_isSame_15 : decode b_Text_isSame 15 = .ok (.iconst 0, 1) := by decide +kernel
theorem d_Text_isSame_16 : decode b_Text_isSame 16 = .ok (.ireturn, 1) := by decide +kernel
theorem d_Text_isSame_17 : decode b_Text_isSame 17 = .ok (.iconst 0, 1) := by decide +kernel
theorem d_Text_isSame_18 : decode b_Text_isSame 18 = .ok (.istore 5, 2) := by decide +kernel
theorem d_Text_isSame_20 : decode b_Text_isSame 20 = .ok (.iload 5, 2) := by decide +kernel
theorem d_Text_isSame_22 : decode b_Text_isSame 22 = .ok (.iload 4, 2) := by decide +kernel
theorem d_Text_isSame_24 : decode b_Text_isSame 24 = .ok (.if_icmp .ge 26, 3) := by decide +kernel
theorem d_Text_isSame_27 : decode b_Text_isSame 27 = .ok (.lload_n 0, 1) := by decide +kernel
theorem d_Text_isSame_28 : decode b_Text_isSame 28 = .ok (.iload 5, 2) := by decide +kernel
theorem d_Text_isSame_30 : decode b_Text_isSame 30 = .ok (.invokestatic 15, 3) := by decide +kernel
theorem d_Text_isSame_33 : decode b_Text_isSame 33 = .ok (.lload_n 2, 1) := by decide +kernel
theorem d_Text_isSame_34 : decode b_Text_isSame 34 = .ok (.iload 5, 2) := by decide +kernel
theorem d_Text_isSame_36 : decode b_Text_isSame 36 = .ok (.invokestatic 15, 3) := by decide +kernel
theorem d_Text_isSame_39 : decode b_Text_isSame 39 = .ok (.if_icmp .eq 5, 3) := by decide +kernel
theorem d_Text_isSame_42 : decode b_Text_isSame 42 = .ok (.iconst 0, 1) := by decide +kernel
theorem d_Text_isSame_43 : decode b_Text_isSame 43 = .ok (.ireturn, 1) := by decide +kernel
theorem d_Text_isSame_44 : decode b_Text_isSame 44 = .ok (.iinc 5 1, 3) := by decide +kernel
theorem d_Text_isSame_47 : decode b_Text_isSame 47 = .ok (.goto (-27), 3) := by decide +kernel
theorem d_Text_isSame_50 : decode b_Text_isSame 50 = .ok (.iconst 1, 1) := by decide +kernel
theorem d_Text_isSame_51 : decode b_Text_isSame 51 = .ok (.ireturn, 1) := by decide +kernel
theorem d_Text_length_0 : decode b_Text_length 0 = .ok (.iconst 0, 1) := by decide +kernel
theorem d_Text_length_1 : decode b_Text_length 1 = .ok (.istore_n 2, 1) := by decide +kernel
theorem d_Text_length_2 : decode b_Text_length 2 = .ok (.iload_n 2, 1) := by decide +kernel
theorem d_Text_length_3 : decode b_Text_length 3 = .ok (.bipush 8, 2) := by decide +kernel
theorem d_Text_length_5 : decode b_Text_length 5 = .ok (.if_icmp .ge 26, 3) := by decide +kernel
theorem d_Text_length_8 : decode b_Text_length 8 = .ok (.lload_n 0, 1) := by decide +kernel
theorem d_Text_length_9 : decode b_Text_length 9 = .ok (.bipush 8, 2) := by decide +kernel
theorem d_Text_length_11 : decode b_Text_length 11 = .ok (.iload_n 2, 1) := by decide +kernel
theorem d_Text_length_12 : decode b_Text_length 12 = .ok (.imul, 1) := by decide +kernel
theorem d_Text_length_13 : decode b_Text_length 13 = .ok (.lushr, 1) := by decide +kernel
theorem d_Text_length_14 : decode b_Text_length 14 = .ok (.ldc2_w 9, 3) := by decide +kernel
theorem d_Text_length_17 : decode b_Text_length 17 = .ok (.land, 1) := by decide +kernel
theorem d_Text_length_18 : decode b_Text_length 18 = .ok (.lconst 0, 1) := by decide +kernel
theorem d_Text_length_19 : decode b_Text_length 19 = .ok (.lcmp, 1) := by decide +kernel
theorem d_Text_length_20 : decode b_Text_length 20 = .ok (.ifCond .ne 5, 3) := by decide +kernel
theorem d_Text_length_23 : decode b_Text_length 23 = .ok (.iload_n 2, 1) := by decide +kernel
theorem d_Text_length_24 : decode b_Text_length 24 = .ok (.ireturn, 1) := by decide +kernel
theorem d_Text_length_25 : decode b_Text_length 25 = .ok (.iinc 2 1, 3) := by decide +kernel
theorem d_Text_length_28 : decode b_Text_length 28 = .ok (.goto (-26), 3) := by decide +kernel
theorem d_Text_length_31 : decode b_Text_length 31 = .ok (.bipush 8, 2) := by decide +kernel
theorem d_Text_length_33 : decode b_Text_length 33 = .ok (.ireturn, 1) := by decide +kernel
theorem d_Values_append_0 : decode b_Values_append 0 = .ok (.iload_n 1, 1) := by decide +kernel
theorem d_Values_append_1 : decode b_Values_append 1 = .ok (.invokestatic 21, 3) := by decide +kernel
theorem d_Values_append_4 : decode b_Values_append 4 = .ok (.ifCond .eq 39, 3) := by decide +kernel
theorem d_Values_append_7 : decode b_Values_append 7 = .ok (.aload_n 0, 1) := by decide +kernel
theorem d_Values_append_8 : decode b_Values_append 8 = .ok (.getfield 13, 3) := by decide +kernel
theorem d_Values_append_11 : decode b_Values_append 11 = .ok (.iload_n 1, 1) := by decide +kernel
theorem d_Values_append_12 : decode b_Values_append 12 = .ok (.iaload, 1) := by decide +kernel
theorem d_Values_append_13 : decode b_Values_append 13 = .ok (.iconst 4, 1) := by decide +kernel
theorem d_Values_append_14 : decode b_Values_append 14 = .ok (.if_icmp .ge 29, 3) := by decide +kernel
theorem d_Values_append_17 : decode b_Values_append 17 = .ok (.aload_n 0, 1) := by decide +kernel
theorem d_Values_append_18 : decode b_Values_append 18 = .ok (.getfield 9, 3) := by decide +kernel
theorem d_Values_append_21 : decode b_Values_append 21 = .ok (.iload_n 1, 1) := by decide +kernel
theorem d_Values_append_22 : decode b_Values_append 22 = .ok (.iconst 4, 1) := by decide +kernel
theorem d_Values_append_23 : decode b_Values_append 23 = .ok (.imul, 1) := by decide +kernel
theorem d_Values_append_24 : decode b_Values_append 24 = .ok (.aload_n 0, 1) := by decide +kernel
theorem d_Values_append_25 : decode b_Values_append 25 = .ok (.getfield 13, 3) := by decide +kernel
theorem d_Values_append_28 : decode b_Values_append 28 = .ok (.iload_n 1, 1) := by decide +kernel
theorem d_Values_append_29 : decode b_Values_append 29 = .ok (.iaload, 1) := by decide +kernel
theorem d_Values_append_30 : decode b_Values_append 30 = .ok (.iadd, 1) := by decide +kernel
theorem d_Values_append_31 : decode b_Values_append 31 = .ok (.lload_n 2, 1) := by decide +kernel
theorem d_Values_append_32 : decode b_Values_append 32 = .ok (.lastore, 1) := by decide +kernel
theorem d_Values_append_33 : decode b_Values_append 33 = .ok (.aload_n 0, 1) := by decide +kernel
theorem d_Values_append_34 : decode b_Values_append 34 = .ok (.getfield 13, 3) := by decide +kernel
theorem d_Values_append_37 : decode b_Values_append 37 = .ok (.iload_n 1, 1) := by decide +kernel
theorem d_Values_append_38 : decode b_Values_append 38 = .ok (.dup2, 1) := by decide +kernel
theorem d_Values_append_39 : decode b_Values_append 39 = .ok (.iaload, 1) := by decide +kernel
theorem d_Values_append_40 : decode b_Values_append 40 = .ok (.iconst 1, 1) := by decide +kernel
theorem d_Values_append_41 : decode b_Values_append 41 = .ok (.iadd, 1) := by decide +kernel
theorem d_Values_append_42 : decode b_Values_append 42 = .ok (.iastore, 1) := by decide +kernel
theorem d_Values_append_43 : decode b_Values_append 43 = .ok (.aload_n 0, 1) := by decide +kernel
theorem d_Values_append_44 : decode b_Values_append 44 = .ok (.iload_n 1, 1) := by decide +kernel
theorem d_Values_append_45 : decode b_Values_append 45 = .ok (.invokevirtual 17, 3) := by decide +kernel
theorem d_Values_append_48 : decode b_Values_append 48 = .ok (.ireturn, 1) := by decide +kernel
theorem d_Values_count_0 : decode b_Values_count 0 = .ok (.iload_n 1, 1) := by decide +kernel
theorem d_Values_count_1 : decode b_Values_count 1 = .ok (.ifCond .lt 18, 3) := by decide +kernel
theorem d_Values_count_4 : decode b_Values_count 4 = .ok (.iload_n 1, 1) := by decide +kernel
theorem d_Values_count_5 : decode b_Values_count 5 = .ok (.bipush 8, 2) := by decide +kernel
theorem d_Values_count_7 : decode b_Values_count 7 = .ok (.if_icmp .ge 12, 3) := by decide +kernel
theorem d_Values_count_10 : decode b_Values_count 10 = .ok (.aload_n 0, 1) := by decide +kernel
theorem d_Values_count_11 : decode b_Values_count 11 = .ok (.getfield 13, 3) := by decide +kernel
theorem d_Values_count_14 : decode b_Values_count 14 = .ok (.iload_n 1, 1) := by decide +kernel
theorem d_Values_count_15 : decode b_Values_count 15 = .ok (.iaload, 1) := by decide +kernel
theorem d_Values_count_16 : decode b_Values_count 16 = .ok (.goto 4, 3) := by decide +kernel
theorem d_Values_count_19 : decode b_Values_count 19 = .ok (.iconst 0, 1) := by decide +kernel
theorem d_Values_count_20 : decode b_Values_count 20 = .ok (.ireturn, 1) := by decide +kernel
theorem d_Values_empty_0 : decode b_Values_empty 0 = .ok (.aload_n 0, 1) := by decide +kernel
theorem d_Values_empty_1 : decode b_Values_empty 1 = .ok (.iload_n 1, 1) := by decide +kernel
theorem d_Values_empty_2 : decode b_Values_empty 2 = .ok (.invokevirtual 17, 3) := by decide +kernel
theorem d_Values_empty_5 : decode b_Values_empty 5 = .ok (.istore_n 2, 1) := by decide +kernel
theorem d_Values_empty_6 : decode b_Values_empty 6 = .ok (.iload_n 1, 1) := by decide +kernel
theorem d_Values_empty_7 : decode b_Values_empty 7 = .ok (.invokestatic 21, 3) := by decide +kernel
theorem d_Values_empty_10 : decode b_Values_empty 10 = .ok (.ifCond .eq 10, 3) := by decide +kernel
theorem d_Values_empty_13 : decode b_Values_empty 13 = .ok (.aload_n 0, 1) := by decide +kernel
theorem d_Values_empty_14 : decode b_Values_empty 14 = .ok (.getfield 13, 3) := by decide +kernel
theorem d_Values_empty_17 : decode b_Values_empty 17 = .ok (.iload_n 1, 1) := by decide +kernel
theorem d_Values_empty_18 : decode b_Values_empty 18 = .ok (.iconst 0, 1) := by decide +kernel
theorem d_Values_empty_19 : decode b_Values_empty 19 = .ok (.iastore, 1) := by decide +kernel
theorem d_Values_empty_20 : decode b_Values_empty 20 = .ok (.iload_n 2, 1) := by decide +kernel
theorem d_Values_empty_21 : decode b_Values_empty 21 = .ok (.ireturn, 1) := by decide +kernel
theorem d_Values_get_0 : decode b_Values_get 0 = .ok (.iload_n 1, 1) := by decide +kernel
theorem d_Values_get_1 : decode b_Values_get 1 = .ok (.ifCond .lt 23, 3) := by decide +kernel
theorem d_Values_get_4 : decode b_Values_get 4 = .ok (.iload_n 1, 1) := by decide +kernel
theorem d_Values_get_5 : decode b_Values_get 5 = .ok (.bipush 8, 2) := by decide +kernel
theorem d_Values_get_7 : decode b_Values_get 7 = .ok (.if_icmp .ge 17, 3) := by decide +kernel
theorem d_Values_get_10 : decode b_Values_get 10 = .ok (.iload_n 2, 1) := by decide +kernel
theorem d_Values_get_11 : decode b_Values_get 11 = .ok (.ifCond .lt 13, 3) := by decide +kernel
theorem d_Values_get_14 : decode b_Values_get 14 = .ok (.iload_n 2, 1) := by decide +kernel
theorem d_Values_get_15 : decode b_Values_get 15 = .ok (.aload_n 0, 1) := by decide +kernel
theorem d_Values_get_16 : decode b_Values_get 16 = .ok (.getfield 13, 3) := by decide +kernel
theorem d_Values_get_19 : decode b_Values_get 19 = .ok (.iload_n 1, 1) := by decide +kernel
theorem d_Values_get_20 : decode b_Values_get 20 = .ok (.iaload, 1) := by decide +kernel
theorem d_Values_get_21 : decode b_Values_get 21 = .ok (.if_icmp .lt 5, 3) := by decide +kernel
theorem d_Values_get_24 : decode b_Values_get 24 = .ok (.lconst 0, 1) := by decide +kernel
theorem d_Values_get_25 : decode b_Values_get 25 = .ok (.lreturn, 1) := by decide +kernel
theorem d_Values_get_26 : decode b_Values_get 26 = .ok (.aload_n 0, 1) := by decide +kernel
theorem d_Values_get_27 : decode b_Values_get 27 = .ok (.getfield 9, 3) := by decide +kernel
theorem d_Values_get_30 : decode b_Values_get 30 = .ok (.iload_n 1, 1) := by decide +kernel
theorem d_Values_get_31 : decode b_Values_get 31 = .ok (.iconst 4, 1) := by decide +kernel
theorem d_Values_get_32 : decode b_Values_get 32 = .ok (.imul, 1) := by decide +kernel
theorem d_Values_get_33 : decode b_Values_get 33 = .ok (.iload_n 2, 1) := by decide +kernel
theorem d_Values_get_34 : decode b_Values_get 34 = .ok (.iadd, 1) := by decide +kernel
theorem d_Values_get_35 : decode b_Values_get 35 = .ok (.laload, 1) := by decide +kernel
theorem d_Values_get_36 : decode b_Values_get 36 = .ok (.lreturn, 1) := by decide +kernel
theorem d_Values_init_0 : decode b_Values_init 0 = .ok (.aload_n 0, 1) := by decide +kernel
theorem d_Values_init_1 : decode b_Values_init 1 = .ok (.invokespecial 1, 3) := by decide +kernel
theorem d_Values_init_4 : decode b_Values_init 4 = .ok (.aload_n 0, 1) := by decide +kernel
theorem d_Values_init_5 : decode b_Values_init 5 = .ok (.bipush 32, 2) := by decide +kernel
theorem d_Values_init_7 : decode b_Values_init 7 = .ok (.newarray .long, 2) := by decide +kernel
theorem d_Values_init_9 : decode b_Values_init 9 = .ok (.putfield 9, 3) := by decide +kernel
theorem d_Values_init_12 : decode b_Values_init 12 = .ok (.aload_n 0, 1) := by decide +kernel
theorem d_Values_init_13 : decode b_Values_init 13 = .ok (.bipush 8, 2) := by decide +kernel
theorem d_Values_init_15 : decode b_Values_init 15 = .ok (.newarray .int, 2) := by decide +kernel
theorem d_Values_init_17 : decode b_Values_init 17 = .ok (.putfield 13, 3) := by decide +kernel
theorem d_Values_init_20 : decode b_Values_init 20 = .ok (.return_, 1) := by decide +kernel
theorem d_Values_isFull_0 : decode b_Values_isFull 0 = .ok (.aload_n 0, 1) := by decide +kernel
theorem d_Values_isFull_1 : decode b_Values_isFull 1 = .ok (.iload_n 1, 1) := by decide +kernel
theorem d_Values_isFull_2 : decode b_Values_isFull 2 = .ok (.invokevirtual 17, 3) := by decide +kernel
theorem d_Values_isFull_5 : decode b_Values_isFull 5 = .ok (.iconst 4, 1) := by decide +kernel
theorem d_Values_isFull_6 : decode b_Values_isFull 6 = .ok (.if_icmp .lt 7, 3) := by decide +kernel
theorem d_Values_isFull_9 : decode b_Values_isFull 9 = .ok (.iconst 1, 1) := by decide +kernel
theorem d_Values_isFull_10 : decode b_Values_isFull 10 = .ok (.goto 4, 3) := by decide +kernel
theorem d_Values_isFull_13 : decode b_Values_isFull 13 = .ok (.iconst 0, 1) := by decide +kernel
theorem d_Values_isFull_14 : decode b_Values_isFull 14 = .ok (.ireturn, 1) := by decide +kernel
theorem d_Values_isKey_0 : decode b_Values_isKey 0 = .ok (.iload_n 0, 1) := by decide +kernel
theorem d_Values_isKey_1 : decode b_Values_isKey 1 = .ok (.ifCond .lt 13, 3) := by decide +kernel
theorem d_Values_isKey_4 : decode b_Values_isKey 4 = .ok (.iload_n 0, 1) := by decide +kernel
theorem d_Values_isKey_5 : decode b_Values_isKey 5 = .ok (.bipush 8, 2) := by decide +kernel
theorem d_Values_isKey_7 : decode b_Values_isKey 7 = .ok (.if_icmp .ge 7, 3) := by decide +kernel
theorem d_Values_isKey_10 : decode b_Values_isKey 10 = .ok (.iconst 1, 1) := by decide +kernel
theorem d_Values_isKey_11 : decode b_Values_isKey 11 = .ok (.goto 4, 3) := by decide +kernel
theorem d_Values_isKey_14 : decode b_Values_isKey 14 = .ok (.iconst 0, 1) := by decide +kernel
theorem d_Values_isKey_15 : decode b_Values_isKey 15 = .ok (.ireturn, 1) := by decide +kernel
