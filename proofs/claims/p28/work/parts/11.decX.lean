theorem dX0_init_0 : decode cX0_init 0 = .ok (.aload_n 0, 1) := by decide +kernel
theorem dX0_init_1 : decode cX0_init 1 = .ok (.invokespecial 3, 3) := by decide +kernel
theorem dX0_init_4 : decode cX0_init 4 = .ok (.aload_n 0, 1) := by decide +kernel
theorem dX0_init_5 : decode cX0_init 5 = .ok (.new 9, 3) := by decide +kernel
theorem dX0_init_8 : decode cX0_init 8 = .ok (.dup, 1) := by decide +kernel
theorem dX0_init_9 : decode cX0_init 9 = .ok (.invokespecial 11, 3) := by decide +kernel
theorem dX0_init_12 : decode cX0_init 12 = .ok (.putfield 12, 3) := by decide +kernel
theorem dX0_init_15 : decode cX0_init 15 = .ok (.return_, 1) := by decide +kernel
theorem dX0_count_0 : decode cX0_count 0 = .ok (.aload_n 0, 1) := by decide +kernel
theorem dX0_count_1 : decode cX0_count 1 = .ok (.getfield 12, 3) := by decide +kernel
theorem dX0_count_4 : decode cX0_count 4 = .ok (.invokevirtual 18, 3) := by decide +kernel
theorem dX0_count_7 : decode cX0_count 7 = .ok (.ireturn, 1) := by decide +kernel
theorem dX0_at_0 : decode cX0_at 0 = .ok (.aload_n 0, 1) := by decide +kernel
theorem dX0_at_1 : decode cX0_at 1 = .ok (.getfield 12, 3) := by decide +kernel
theorem dX0_at_4 : decode cX0_at 4 = .ok (.iload_n 1, 1) := by decide +kernel
theorem dX0_at_5 : decode cX0_at 5 = .ok (.invokevirtual 22, 3) := by decide +kernel
theorem dX0_at_8 : decode cX0_at 8 = .ok (.checkcast 26, 3) := by decide +kernel
theorem dX0_at_11 : decode cX0_at 11 = .ok (.areturn, 1) := by decide +kernel
theorem dX0_note_0 : decode cX0_note 0 = .ok (.aload_n 0, 1) := by decide +kernel
theorem dX0_note_1 : decode cX0_note 1 = .ok (.getfield 12, 3) := by decide +kernel
theorem dX0_note_4 : decode cX0_note 4 = .ok (.aload_n 1, 1) := by decide +kernel
theorem dX0_note_5 : decode cX0_note 5 = .ok (.invokevirtual 28, 3) := by decide +kernel
theorem dX0_note_8 : decode cX0_note 8 = .ok (.pop, 1) := by decide +kernel
theorem dX0_note_9 : decode cX0_note 9 = .ok (.return_, 1) := by decide +kernel
theorem dX0_hasMoveAt_0 : decode cX0_hasMoveAt 0 = .ok (.iconst 0, 1) := by decide +kernel
theorem dX0_hasMoveAt_1 : decode cX0_hasMoveAt 1 = .ok (.istore_n 2, 1) := by decide +kernel
theorem dX0_hasMoveAt_2 : decode cX0_hasMoveAt 2 = .ok (.iload_n 2, 1) := by decide +kernel
theorem dX0_hasMoveAt_3 : decode cX0_hasMoveAt 3 = .ok (.aload_n 0, 1) := by decide +kernel
theorem dX0_hasMoveAt_4 : decode cX0_hasMoveAt 4 = .ok (.getfield 12, 3) := by decide +kernel
theorem dX0_hasMoveAt_7 : decode cX0_hasMoveAt 7 = .ok (.invokevirtual 18, 3) := by decide +kernel
theorem dX0_hasMoveAt_10 : decode cX0_hasMoveAt 10 = .ok (.if_icmp .ge 32, 3) := by decide +kernel
theorem dX0_hasMoveAt_13 : decode cX0_hasMoveAt 13 = .ok (.aload_n 0, 1) := by decide +kernel
theorem dX0_hasMoveAt_14 : decode cX0_hasMoveAt 14 = .ok (.getfield 12, 3) := by decide +kernel
theorem dX0_hasMoveAt_17 : decode cX0_hasMoveAt 17 = .ok (.iload_n 2, 1) := by decide +kernel
theorem dX0_hasMoveAt_18 : decode cX0_hasMoveAt 18 = .ok (.invokevirtual 22, 3) := by decide +kernel
theorem dX0_hasMoveAt_21 : decode cX0_hasMoveAt 21 = .ok (.checkcast 26, 3) := by decide +kernel
theorem dX0_hasMoveAt_24 : decode cX0_hasMoveAt 24 = .ok (.getfield 32, 3) := by decide +kernel
theorem dX0_hasMoveAt_27 : decode cX0_hasMoveAt 27 = .ok (.getfield 36, 3) := by decide +kernel
theorem dX0_hasMoveAt_30 : decode cX0_hasMoveAt 30 = .ok (.iload_n 1, 1) := by decide +kernel
theorem dX0_hasMoveAt_31 : decode cX0_hasMoveAt 31 = .ok (.if_icmp .ne 5, 3) := by decide +kernel
theorem dX0_hasMoveAt_34 : decode cX0_hasMoveAt 34 = .ok (.iconst 1, 1) := by decide +kernel
theorem dX0_hasMoveAt_35 : decode cX0_hasMoveAt 35 = .ok (.ireturn, 1) := by decide +kernel
theorem dX0_hasMoveAt_36 : decode cX0_hasMoveAt 36 = .ok (.iinc 2 1, 3) := by decide +kernel
theorem dX0_hasMoveAt_39 : decode cX0_hasMoveAt 39 = .ok (.goto (-37), 3) := by decide +kernel
theorem dX0_hasMoveAt_42 : decode cX0_hasMoveAt 42 = .ok (.iconst 0, 1) := by decide +kernel
theorem dX0_hasMoveAt_43 : decode cX0_hasMoveAt 43 = .ok (.ireturn, 1) := by decide +kernel
theorem dX0_pilotIsReady_0 : decode cX0_pilotIsReady 0 = .ok (.iconst 0, 1) := by decide +kernel
theorem dX0_pilotIsReady_1 : decode cX0_pilotIsReady 1 = .ok (.istore 4, 2) := by decide +kernel
theorem dX0_pilotIsReady_3 : decode cX0_pilotIsReady 3 = .ok (.iload_n 3, 1) := by decide +kernel
theorem dX0_pilotIsReady_4 : decode cX0_pilotIsReady 4 = .ok (.aload_n 0, 1) := by decide +kernel
theorem dX0_pilotIsReady_5 : decode cX0_pilotIsReady 5 = .ok (.getfield 12, 3) := by decide +kernel
theorem dX0_pilotIsReady_8 : decode cX0_pilotIsReady 8 = .ok (.invokevirtual 18, 3) := by decide +kernel
theorem dX0_pilotIsReady_11 : decode cX0_pilotIsReady 11 = .ok (.invokestatic 42, 3) := by decide +kernel
theorem dX0_pilotIsReady_14 : decode cX0_pilotIsReady 14 = .ok (.iconst 1, 1) := by decide +kernel
theorem dX0_pilotIsReady_15 : decode cX0_pilotIsReady 15 = .ok (.isub, 1) := by decide +kernel
theorem dX0_pilotIsReady_16 : decode cX0_pilotIsReady 16 = .ok (.istore 5, 2) := by decide +kernel
theorem dX0_pilotIsReady_18 : decode cX0_pilotIsReady 18 = .ok (.iload 5, 2) := by decide +kernel
theorem dX0_pilotIsReady_20 : decode cX0_pilotIsReady 20 = .ok (.ifCond .lt 63, 3) := by decide +kernel
theorem dX0_pilotIsReady_23 : decode cX0_pilotIsReady 23 = .ok (.aload_n 0, 1) := by decide +kernel
theorem dX0_pilotIsReady_24 : decode cX0_pilotIsReady 24 = .ok (.getfield 12, 3) := by decide +kernel
theorem dX0_pilotIsReady_27 : decode cX0_pilotIsReady 27 = .ok (.iload 5, 2) := by decide +kernel
theorem dX0_pilotIsReady_29 : decode cX0_pilotIsReady 29 = .ok (.invokevirtual 22, 3) := by decide +kernel
theorem dX0_pilotIsReady_32 : decode cX0_pilotIsReady 32 = .ok (.checkcast 26, 3) := by decide +kernel
theorem dX0_pilotIsReady_35 : decode cX0_pilotIsReady 35 = .ok (.astore 6, 2) := by decide +kernel
theorem dX0_pilotIsReady_37 : decode cX0_pilotIsReady 37 = .ok (.iload_n 2, 1) := by decide +kernel
theorem dX0_pilotIsReady_38 : decode cX0_pilotIsReady 38 = .ok (.aload 6, 2) := by decide +kernel
theorem dX0_pilotIsReady_40 : decode cX0_pilotIsReady 40 = .ok (.getfield 48, 3) := by decide +kernel
theorem dX0_pilotIsReady_43 : decode cX0_pilotIsReady 43 = .ok (.isub, 1) := by decide +kernel
theorem dX0_pilotIsReady_44 : decode cX0_pilotIsReady 44 = .ok (.istore 7, 2) := by decide +kernel
theorem dX0_pilotIsReady_46 : decode cX0_pilotIsReady 46 = .ok (.iload 7, 2) := by decide +kernel
theorem dX0_pilotIsReady_48 : decode cX0_pilotIsReady 48 = .ok (.bipush 24, 2) := by decide +kernel
theorem dX0_pilotIsReady_50 : decode cX0_pilotIsReady 50 = .ok (.if_icmp .lt 6, 3) := by decide +kernel
theorem dX0_pilotIsReady_53 : decode cX0_pilotIsReady 53 = .ok (.goto 30, 3) := by decide +kernel
theorem dX0_pilotIsReady_56 : decode cX0_pilotIsReady 56 = .ok (.aload 6, 2) := by decide +kernel
theorem dX0_pilotIsReady_58 : decode cX0_pilotIsReady 58 = .ok (.getfield 51, 3) := by decide +kernel
theorem dX0_pilotIsReady_61 : decode cX0_pilotIsReady 61 = .ok (.iload_n 1, 1) := by decide +kernel
theorem dX0_pilotIsReady_62 : decode cX0_pilotIsReady 62 = .ok (.if_icmp .ne 15, 3) := by decide +kernel
theorem dX0_pilotIsReady_65 : decode cX0_pilotIsReady 65 = .ok (.iload 7, 2) := by decide +kernel
theorem dX0_pilotIsReady_67 : decode cX0_pilotIsReady 67 = .ok (.bipush 6, 2) := by decide +kernel
theorem dX0_pilotIsReady_69 : decode cX0_pilotIsReady 69 = .ok (.if_icmp .ge 5, 3) := by decide +kernel
theorem dX0_pilotIsReady_72 : decode cX0_pilotIsReady 72 = .ok (.iconst 0, 1) := by decide +kernel
theorem dX0_pilotIsReady_73 : decode cX0_pilotIsReady 73 = .ok (.ireturn, 1) := by decide +kernel
theorem dX0_pilotIsReady_74 : decode cX0_pilotIsReady 74 = .ok (.iinc 4 1, 3) := by decide +kernel
theorem dX0_pilotIsReady_77 : decode cX0_pilotIsReady 77 = .ok (.iinc 5 (-1), 3) := by decide +kernel
theorem dX0_pilotIsReady_80 : decode cX0_pilotIsReady 80 = .ok (.goto (-62), 3) := by decide +kernel
theorem dX0_pilotIsReady_83 : decode cX0_pilotIsReady 83 = .ok (.iload 4, 2) := by decide +kernel
theorem dX0_pilotIsReady_85 : decode cX0_pilotIsReady 85 = .ok (.iconst 3, 1) := by decide +kernel
theorem dX0_pilotIsReady_86 : decode cX0_pilotIsReady 86 = .ok (.if_icmp .ge 7, 3) := by decide +kernel
theorem dX0_pilotIsReady_89 : decode cX0_pilotIsReady 89 = .ok (.iconst 1, 1) := by decide +kernel
theorem dX0_pilotIsReady_90 : decode cX0_pilotIsReady 90 = .ok (.goto 4, 3) := by decide +kernel
theorem dX0_pilotIsReady_93 : decode cX0_pilotIsReady 93 = .ok (.iconst 0, 1) := by decide +kernel
theorem dX0_pilotIsReady_94 : decode cX0_pilotIsReady 94 = .ok (.ireturn, 1) := by decide +kernel
theorem dX0_readyTugs_0 : decode cX0_readyTugs 0 = .ok (.iload_n 1, 1) := by decide +kernel
theorem dX0_readyTugs_1 : decode cX0_readyTugs 1 = .ok (.invokestatic 54, 3) := by decide +kernel
theorem dX0_readyTugs_4 : decode cX0_readyTugs 4 = .ok (.istore_n 3, 1) := by decide +kernel
theorem dX0_readyTugs_5 : decode cX0_readyTugs 5 = .ok (.iload_n 2, 1) := by decide +kernel
theorem dX0_readyTugs_6 : decode cX0_readyTugs 6 = .ok (.aload_n 0, 1) := by decide +kernel
theorem dX0_readyTugs_7 : decode cX0_readyTugs 7 = .ok (.getfield 12, 3) := by decide +kernel
theorem dX0_readyTugs_10 : decode cX0_readyTugs 10 = .ok (.invokevirtual 18, 3) := by decide +kernel
theorem dX0_readyTugs_13 : decode cX0_readyTugs 13 = .ok (.invokestatic 42, 3) := by decide +kernel
theorem dX0_readyTugs_16 : decode cX0_readyTugs 16 = .ok (.iconst 1, 1) := by decide +kernel
theorem dX0_readyTugs_17 : decode cX0_readyTugs 17 = .ok (.isub, 1) := by decide +kernel
theorem dX0_readyTugs_18 : decode cX0_readyTugs 18 = .ok (.istore 4, 2) := by decide +kernel
theorem dX0_readyTugs_20 : decode cX0_readyTugs 20 = .ok (.iload 4, 2) := by decide +kernel
theorem dX0_readyTugs_22 : decode cX0_readyTugs 22 = .ok (.ifCond .lt 47, 3) := by decide +kernel
theorem dX0_readyTugs_25 : decode cX0_readyTugs 25 = .ok (.aload_n 0, 1) := by decide +kernel
theorem dX0_readyTugs_26 : decode cX0_readyTugs 26 = .ok (.getfield 12, 3) := by decide +kernel
theorem dX0_readyTugs_29 : decode cX0_readyTugs 29 = .ok (.iload 4, 2) := by decide +kernel
theorem dX0_readyTugs_31 : decode cX0_readyTugs 31 = .ok (.invokevirtual 22, 3) := by decide +kernel
theorem dX0_readyTugs_34 : decode cX0_readyTugs 34 = .ok (.checkcast 26, 3) := by decide +kernel
theorem dX0_readyTugs_37 : decode cX0_readyTugs 37 = .ok (.astore 5, 2) := by decide +kernel
theorem dX0_readyTugs_39 : decode cX0_readyTugs 39 = .ok (.iload_n 1, 1) := by decide +kernel
theorem dX0_readyTugs_40 : decode cX0_readyTugs 40 = .ok (.aload 5, 2) := by decide +kernel
theorem dX0_readyTugs_42 : decode cX0_readyTugs 42 = .ok (.getfield 48, 3) := by decide +kernel
theorem dX0_readyTugs_45 : decode cX0_readyTugs 45 = .ok (.isub, 1) := by decide +kernel
theorem dX0_readyTugs_46 : decode cX0_readyTugs 46 = .ok (.iconst 3, 1) := by decide +kernel
theorem dX0_readyTugs_47 : decode cX0_readyTugs 47 = .ok (.if_icmp .lt 6, 3) := by decide +kernel
theorem dX0_readyTugs_50 : decode cX0_readyTugs 50 = .ok (.goto 19, 3) := by decide +kernel
theorem dX0_readyTugs_53 : decode cX0_readyTugs 53 = .ok (.iload_n 3, 1) := by decide +kernel
theorem dX0_readyTugs_54 : decode cX0_readyTugs 54 = .ok (.aload 5, 2) := by decide +kernel
theorem dX0_readyTugs_56 : decode cX0_readyTugs 56 = .ok (.getfield 58, 3) := by decide +kernel
theorem dX0_readyTugs_59 : decode cX0_readyTugs 59 = .ok (.iconst (-1), 1) := by decide +kernel
theorem dX0_readyTugs_60 : decode cX0_readyTugs 60 = .ok (.ixor, 1) := by decide +kernel
theorem dX0_readyTugs_61 : decode cX0_readyTugs 61 = .ok (.iand, 1) := by decide +kernel
theorem dX0_readyTugs_62 : decode cX0_readyTugs 62 = .ok (.istore_n 3, 1) := by decide +kernel
theorem dX0_readyTugs_63 : decode cX0_readyTugs 63 = .ok (.iinc 4 (-1), 3) := by decide +kernel
theorem dX0_readyTugs_66 : decode cX0_readyTugs 66 = .ok (.goto (-46), 3) := by decide +kernel
theorem dX0_readyTugs_69 : decode cX0_readyTugs 69 = .ok (.iload_n 3, 1) := by decide +kernel
theorem dX0_readyTugs_70 : decode cX0_readyTugs 70 = .ok (.ireturn, 1) := by decide +kernel
theorem dX0_tugsOnDuty_0 : decode cX0_tugsOnDuty 0 = .ok (.iconst 0, 1) := by decide +kernel
theorem dX0_tugsOnDuty_1 : decode cX0_tugsOnDuty 1 = .ok (.istore_n 1, 1) := by decide +kernel
theorem dX0_tugsOnDuty_2 : decode cX0_tugsOnDuty 2 = .ok (.iconst 0, 1) := by decide +kernel
theorem dX0_tugsOnDuty_3 : decode cX0_tugsOnDuty 3 = .ok (.istore_n 2, 1) := by decide +kernel
theorem dX0_tugsOnDuty_4 : decode cX0_tugsOnDuty 4 = .ok (.iload_n 2, 1) := by decide +kernel
theorem dX0_tugsOnDuty_5 : decode cX0_tugsOnDuty 5 = .ok (.bipush 6, 2) := by decide +kernel
theorem dX0_tugsOnDuty_7 : decode cX0_tugsOnDuty 7 = .ok (.if_icmp .ge 26, 3) := by decide +kernel
theorem dX0_tugsOnDuty_10 : decode cX0_tugsOnDuty 10 = .ok (.iload_n 0, 1) := by decide +kernel
theorem dX0_tugsOnDuty_11 : decode cX0_tugsOnDuty 11 = .ok (.bipush 8, 2) := by decide +kernel
theorem dX0_tugsOnDuty_13 : decode cX0_tugsOnDuty 13 = .ok (.idiv, 1) := by decide +kernel
theorem dX0_tugsOnDuty_14 : decode cX0_tugsOnDuty 14 = .ok (.iload_n 2, 1) := by decide +kernel
theorem dX0_tugsOnDuty_15 : decode cX0_tugsOnDuty 15 = .ok (.iadd, 1) := by decide +kernel
theorem dX0_tugsOnDuty_16 : decode cX0_tugsOnDuty 16 = .ok (.iconst 3, 1) := by decide +kernel
theorem dX0_tugsOnDuty_17 : decode cX0_tugsOnDuty 17 = .ok (.irem, 1) := by decide +kernel
theorem dX0_tugsOnDuty_18 : decode cX0_tugsOnDuty 18 = .ok (.ifCond .eq 9, 3) := by decide +kernel
theorem dX0_tugsOnDuty_21 : decode cX0_tugsOnDuty 21 = .ok (.iload_n 1, 1) := by decide +kernel
theorem dX0_tugsOnDuty_22 : decode cX0_tugsOnDuty 22 = .ok (.iconst 1, 1) := by decide +kernel
theorem dX0_tugsOnDuty_23 : decode cX0_tugsOnDuty 23 = .ok (.iload_n 2, 1) := by decide +kernel
theorem dX0_tugsOnDuty_24 : decode cX0_tugsOnDuty 24 = .ok (.ishl, 1) := by decide +kernel
theorem dX0_tugsOnDuty_25 : decode cX0_tugsOnDuty 25 = .ok (.ior, 1) := by decide +kernel
theorem dX0_tugsOnDuty_26 : decode cX0_tugsOnDuty 26 = .ok (.istore_n 1, 1) := by decide +kernel
theorem dX0_tugsOnDuty_27 : decode cX0_tugsOnDuty 27 = .ok (.iinc 2 1, 3) := by decide +kernel
theorem dX0_tugsOnDuty_30 : decode cX0_tugsOnDuty 30 = .ok (.goto (-26), 3) := by decide +kernel
theorem dX0_tugsOnDuty_33 : decode cX0_tugsOnDuty 33 = .ok (.iload_n 1, 1) := by decide +kernel
theorem dX0_tugsOnDuty_34 : decode cX0_tugsOnDuty 34 = .ok (.ireturn, 1) := by decide +kernel
theorem dX0_berthIsFree_0 : decode cX0_berthIsFree 0 = .ok (.iconst 0, 1) := by decide +kernel
theorem dX0_berthIsFree_1 : decode cX0_berthIsFree 1 = .ok (.istore 4, 2) := by decide +kernel
theorem dX0_berthIsFree_3 : decode cX0_berthIsFree 3 = .ok (.iconst 0, 1) := by decide +kernel
theorem dX0_berthIsFree_4 : decode cX0_berthIsFree 4 = .ok (.istore 5, 2) := by decide +kernel
theorem dX0_berthIsFree_6 : decode cX0_berthIsFree 6 = .ok (.iload 5, 2) := by decide +kernel
theorem dX0_berthIsFree_8 : decode cX0_berthIsFree 8 = .ok (.iload_n 3, 1) := by decide +kernel
theorem dX0_berthIsFree_9 : decode cX0_berthIsFree 9 = .ok (.if_icmp .ge 78, 3) := by decide +kernel
theorem dX0_berthIsFree_12 : decode cX0_berthIsFree 12 = .ok (.iload 5, 2) := by decide +kernel
theorem dX0_berthIsFree_14 : decode cX0_berthIsFree 14 = .ok (.aload_n 0, 1) := by decide +kernel
theorem dX0_berthIsFree_15 : decode cX0_berthIsFree 15 = .ok (.getfield 12, 3) := by decide +kernel
theorem dX0_berthIsFree_18 : decode cX0_berthIsFree 18 = .ok (.invokevirtual 18, 3) := by decide +kernel
theorem dX0_berthIsFree_21 : decode cX0_berthIsFree 21 = .ok (.if_icmp .ge 66, 3) := by decide +kernel
theorem dX0_berthIsFree_24 : decode cX0_berthIsFree 24 = .ok (.aload_n 0, 1) := by decide +kernel
theorem dX0_berthIsFree_25 : decode cX0_berthIsFree 25 = .ok (.getfield 12, 3) := by decide +kernel
theorem dX0_berthIsFree_28 : decode cX0_berthIsFree 28 = .ok (.iload 5, 2) := by decide +kernel
theorem dX0_berthIsFree_30 : decode cX0_berthIsFree 30 = .ok (.invokevirtual 22, 3) := by decide +kernel
theorem dX0_berthIsFree_33 : decode cX0_berthIsFree 33 = .ok (.checkcast 26, 3) := by decide +kernel
theorem dX0_berthIsFree_36 : decode cX0_berthIsFree 36 = .ok (.astore 6, 2) := by decide +kernel
theorem dX0_berthIsFree_38 : decode cX0_berthIsFree 38 = .ok (.aload 6, 2) := by decide +kernel
theorem dX0_berthIsFree_40 : decode cX0_berthIsFree 40 = .ok (.getfield 32, 3) := by decide +kernel
theorem dX0_berthIsFree_43 : decode cX0_berthIsFree 43 = .ok (.getfield 36, 3) := by decide +kernel
theorem dX0_berthIsFree_46 : decode cX0_berthIsFree 46 = .ok (.iload_n 1, 1) := by decide +kernel
theorem dX0_berthIsFree_47 : decode cX0_berthIsFree 47 = .ok (.if_icmp .eq 6, 3) := by decide +kernel
theorem dX0_berthIsFree_50 : decode cX0_berthIsFree 50 = .ok (.goto 31, 3) := by decide +kernel
theorem dX0_berthIsFree_53 : decode cX0_berthIsFree 53 = .ok (.aload 6, 2) := by decide +kernel
theorem dX0_berthIsFree_55 : decode cX0_berthIsFree 55 = .ok (.getfield 61, 3) := by decide +kernel
theorem dX0_berthIsFree_58 : decode cX0_berthIsFree 58 = .ok (.ifCond .ne 9, 3) := by decide +kernel
theorem dX0_berthIsFree_61 : decode cX0_berthIsFree 61 = .ok (.iinc 4 1, 3) := by decide +kernel
theorem dX0_berthIsFree_64 : decode cX0_berthIsFree 64 = .ok (.goto 17, 3) := by decide +kernel
theorem dX0_berthIsFree_67 : decode cX0_berthIsFree 67 = .ok (.iload_n 2, 1) := by decide +kernel
theorem dX0_berthIsFree_68 : decode cX0_berthIsFree 68 = .ok (.aload 6, 2) := by decide +kernel
theorem dX0_berthIsFree_70 : decode cX0_berthIsFree 70 = .ok (.getfield 48, 3) := by decide +kernel
theorem dX0_berthIsFree_73 : decode cX0_berthIsFree 73 = .ok (.isub, 1) := by decide +kernel
theorem dX0_berthIsFree_74 : decode cX0_berthIsFree 74 = .ok (.iconst 2, 1) := by decide +kernel
theorem dX0_berthIsFree_75 : decode cX0_berthIsFree 75 = .ok (.if_icmp .lt 6, 3) := by decide +kernel
theorem dX0_berthIsFree_78 : decode cX0_berthIsFree 78 = .ok (.iinc 4 (-1), 3) := by decide +kernel
theorem dX0_berthIsFree_81 : decode cX0_berthIsFree 81 = .ok (.iinc 5 1, 3) := by decide +kernel
theorem dX0_berthIsFree_84 : decode cX0_berthIsFree 84 = .ok (.goto (-78), 3) := by decide +kernel
theorem dX0_berthIsFree_87 : decode cX0_berthIsFree 87 = .ok (.iload 4, 2) := by decide +kernel
theorem dX0_berthIsFree_89 : decode cX0_berthIsFree 89 = .ok (.ifCond .ne 7, 3) := by decide +kernel
theorem dX0_berthIsFree_92 : decode cX0_berthIsFree 92 = .ok (.iconst 1, 1) := by decide +kernel
theorem dX0_berthIsFree_93 : decode cX0_berthIsFree 93 = .ok (.goto 4, 3) := by decide +kernel
theorem dX0_berthIsFree_96 : decode cX0_berthIsFree 96 = .ok (.iconst 0, 1) := by decide +kernel
theorem dX0_berthIsFree_97 : decode cX0_berthIsFree 97 = .ok (.ireturn, 1) := by decide +kernel
theorem dX1_init_0 : decode cX1_init 0 = .ok (.aload_n 0, 1) := by decide +kernel
theorem dX1_init_1 : decode cX1_init 1 = .ok (.invokespecial 1, 3) := by decide +kernel
theorem dX1_init_4 : decode cX1_init 4 = .ok (.aload_n 0, 1) := by decide +kernel
theorem dX1_init_5 : decode cX1_init 5 = .ok (.iload_n 1, 1) := by decide +kernel
theorem dX1_init_6 : decode cX1_init 6 = .ok (.putfield 7, 3) := by decide +kernel
theorem dX1_init_9 : decode cX1_init 9 = .ok (.aload_n 0, 1) := by decide +kernel
theorem dX1_init_10 : decode cX1_init 10 = .ok (.aload_n 2, 1) := by decide +kernel
theorem dX1_init_11 : decode cX1_init 11 = .ok (.putfield 13, 3) := by decide +kernel
theorem dX1_init_14 : decode cX1_init 14 = .ok (.aload_n 0, 1) := by decide +kernel
theorem dX1_init_15 : decode cX1_init 15 = .ok (.iload_n 3, 1) := by decide +kernel
theorem dX1_init_16 : decode cX1_init 16 = .ok (.putfield 17, 3) := by decide +kernel
theorem dX1_init_19 : decode cX1_init 19 = .ok (.aload_n 0, 1) := by decide +kernel
theorem dX1_init_20 : decode cX1_init 20 = .ok (.iload 4, 2) := by decide +kernel
theorem dX1_init_22 : decode cX1_init 22 = .ok (.putfield 21, 3) := by decide +kernel
theorem dX1_init_25 : decode cX1_init 25 = .ok (.aload_n 0, 1) := by decide +kernel
theorem dX1_init_26 : decode cX1_init 26 = .ok (.iload 5, 2) := by decide +kernel
theorem dX1_init_28 : decode cX1_init 28 = .ok (.putfield 24, 3) := by decide +kernel
theorem dX1_init_31 : decode cX1_init 31 = .ok (.return_, 1) := by decide +kernel
theorem dX2_init_0 : decode cX2_init 0 = .ok (.aload_n 0, 1) := by decide +kernel
theorem dX2_init_1 : decode cX2_init 1 = .ok (.invokespecial 3, 3) := by decide +kernel
theorem dX2_init_4 : decode cX2_init 4 = .ok (.aload_n 0, 1) := by decide +kernel
theorem dX2_init_5 : decode cX2_init 5 = .ok (.new 9, 3) := by decide +kernel
theorem dX2_init_8 : decode cX2_init 8 = .ok (.dup, 1) := by decide +kernel
theorem dX2_init_9 : decode cX2_init 9 = .ok (.invokespecial 11, 3) := by decide +kernel
theorem dX2_init_12 : decode cX2_init 12 = .ok (.putfield 12, 3) := by decide +kernel
theorem dX2_init_15 : decode cX2_init 15 = .ok (.return_, 1) := by decide +kernel
theorem dX2_count_0 : decode cX2_count 0 = .ok (.aload_n 0, 1) := by decide +kernel
theorem dX2_count_1 : decode cX2_count 1 = .ok (.getfield 12, 3) := by decide +kernel
theorem dX2_count_4 : decode cX2_count 4 = .ok (.invokevirtual 18, 3) := by decide +kernel
theorem dX2_count_7 : decode cX2_count 7 = .ok (.ireturn, 1) := by decide +kernel
theorem dX2_at_0 : decode cX2_at 0 = .ok (.aload_n 0, 1) := by decide +kernel
theorem dX2_at_1 : decode cX2_at 1 = .ok (.getfield 12, 3) := by decide +kernel
theorem dX2_at_4 : decode cX2_at 4 = .ok (.iload_n 1, 1) := by decide +kernel
theorem dX2_at_5 : decode cX2_at 5 = .ok (.invokevirtual 22, 3) := by decide +kernel
theorem dX2_at_8 : decode cX2_at 8 = .ok (.checkcast 26, 3) := by decide +kernel
theorem dX2_at_11 : decode cX2_at 11 = .ok (.areturn, 1) := by decide +kernel
theorem dX2_insert_0 : decode cX2_insert 0 = .ok (.iconst 0, 1) := by decide +kernel
theorem dX2_insert_1 : decode cX2_insert 1 = .ok (.istore_n 2, 1) := by decide +kernel
theorem dX2_insert_2 : decode cX2_insert 2 = .ok (.iload_n 2, 1) := by decide +kernel
theorem dX2_insert_3 : decode cX2_insert 3 = .ok (.aload_n 0, 1) := by decide +kernel
theorem dX2_insert_4 : decode cX2_insert 4 = .ok (.getfield 12, 3) := by decide +kernel
theorem dX2_insert_7 : decode cX2_insert 7 = .ok (.invokevirtual 18, 3) := by decide +kernel
theorem dX2_insert_10 : decode cX2_insert 10 = .ok (.if_icmp .ge 27, 3) := by decide +kernel
theorem dX2_insert_13 : decode cX2_insert 13 = .ok (.aload_n 0, 1) := by decide +kernel
theorem dX2_insert_14 : decode cX2_insert 14 = .ok (.getfield 12, 3) := by decide +kernel
theorem dX2_insert_17 : decode cX2_insert 17 = .ok (.iload_n 2, 1) := by decide +kernel
theorem dX2_insert_18 : decode cX2_insert 18 = .ok (.invokevirtual 22, 3) := by decide +kernel
theorem dX2_insert_21 : decode cX2_insert 21 = .ok (.checkcast 26, 3) := by decide +kernel
theorem dX2_insert_24 : decode cX2_insert 24 = .ok (.aload_n 1, 1) := by decide +kernel
theorem dX2_insert_25 : decode cX2_insert 25 = .ok (.invokevirtual 28, 3) := by decide +kernel
theorem dX2_insert_28 : decode cX2_insert 28 = .ok (.ifCond .eq 9, 3) := by decide +kernel
theorem dX2_insert_31 : decode cX2_insert 31 = .ok (.iinc 2 1, 3) := by decide +kernel
theorem dX2_insert_34 : decode cX2_insert 34 = .ok (.goto (-32), 3) := by decide +kernel
theorem dX2_insert_37 : decode cX2_insert 37 = .ok (.aload_n 0, 1) := by decide +kernel
theorem dX2_insert_38 : decode cX2_insert 38 = .ok (.getfield 12, 3) := by decide +kernel
theorem dX2_insert_41 : decode cX2_insert 41 = .ok (.iload_n 2, 1) := by decide +kernel
theorem dX2_insert_42 : decode cX2_insert 42 = .ok (.aload_n 1, 1) := by decide +kernel
theorem dX2_insert_43 : decode cX2_insert 43 = .ok (.invokevirtual 32, 3) := by decide +kernel
theorem dX2_insert_46 : decode cX2_insert 46 = .ok (.return_, 1) := by decide +kernel
theorem dX2_drop_0 : decode cX2_drop 0 = .ok (.aload_n 0, 1) := by decide +kernel
theorem dX2_drop_1 : decode cX2_drop 1 = .ok (.aload_n 1, 1) := by decide +kernel
theorem dX2_drop_2 : decode cX2_drop 2 = .ok (.invokevirtual 36, 3) := by decide +kernel
theorem dX2_drop_5 : decode cX2_drop 5 = .ok (.istore_n 2, 1) := by decide +kernel
theorem dX2_drop_6 : decode cX2_drop 6 = .ok (.iload_n 2, 1) := by decide +kernel
theorem dX2_drop_7 : decode cX2_drop 7 = .ok (.iconst (-1), 1) := by decide +kernel
theorem dX2_drop_8 : decode cX2_drop 8 = .ok (.if_icmp .eq 12, 3) := by decide +kernel
theorem dX2_drop_11 : decode cX2_drop 11 = .ok (.aload_n 0, 1) := by decide +kernel
theorem dX2_drop_12 : decode cX2_drop 12 = .ok (.getfield 12, 3) := by decide +kernel
theorem dX2_drop_15 : decode cX2_drop 15 = .ok (.iload_n 2, 1) := by decide +kernel
theorem dX2_drop_16 : decode cX2_drop 16 = .ok (.invokevirtual 40, 3) := by decide +kernel
theorem dX2_drop_19 : decode cX2_drop 19 = .ok (.pop, 1) := by decide +kernel
theorem dX2_drop_20 : decode cX2_drop 20 = .ok (.aload_n 1, 1) := by decide +kernel
theorem dX2_drop_21 : decode cX2_drop 21 = .ok (.iconst (-1), 1) := by decide +kernel
theorem dX2_drop_22 : decode cX2_drop 22 = .ok (.putfield 43, 3) := by decide +kernel
theorem dX2_drop_25 : decode cX2_drop 25 = .ok (.return_, 1) := by decide +kernel
theorem dX2_placeOf_0 : decode cX2_placeOf 0 = .ok (.iconst 0, 1) := by decide +kernel
theorem dX2_placeOf_1 : decode cX2_placeOf 1 = .ok (.istore_n 2, 1) := by decide +kernel
theorem dX2_placeOf_2 : decode cX2_placeOf 2 = .ok (.iload_n 2, 1) := by decide +kernel
theorem dX2_placeOf_3 : decode cX2_placeOf 3 = .ok (.aload_n 0, 1) := by decide +kernel
theorem dX2_placeOf_4 : decode cX2_placeOf 4 = .ok (.getfield 12, 3) := by decide +kernel
theorem dX2_placeOf_7 : decode cX2_placeOf 7 = .ok (.invokevirtual 18, 3) := by decide +kernel
theorem dX2_placeOf_10 : decode cX2_placeOf 10 = .ok (.if_icmp .ge 23, 3) := by decide +kernel
theorem dX2_placeOf_13 : decode cX2_placeOf 13 = .ok (.aload_n 0, 1) := by decide +kernel
theorem dX2_placeOf_14 : decode cX2_placeOf 14 = .ok (.getfield 12, 3) := by decide +kernel
theorem dX2_placeOf_17 : decode cX2_placeOf 17 = .ok (.iload_n 2, 1) := by decide +kernel
theorem dX2_placeOf_18 : decode cX2_placeOf 18 = .ok (.invokevirtual 22, 3) := by decide +kernel
theorem dX2_placeOf_21 : decode cX2_placeOf 21 = .ok (.aload_n 1, 1) := by decide +kernel
theorem dX2_placeOf_22 : decode cX2_placeOf 22 = .ok (.if_acmp .ne 5, 3) := by decide +kernel
theorem dX2_placeOf_25 : decode cX2_placeOf 25 = .ok (.iload_n 2, 1) := by decide +kernel
theorem dX2_placeOf_26 : decode cX2_placeOf 26 = .ok (.ireturn, 1) := by decide +kernel
theorem dX2_placeOf_27 : decode cX2_placeOf 27 = .ok (.iinc 2 1, 3) := by decide +kernel
theorem dX2_placeOf_30 : decode cX2_placeOf 30 = .ok (.goto (-28), 3) := by decide +kernel
theorem dX2_placeOf_33 : decode cX2_placeOf 33 = .ok (.iconst (-1), 1) := by decide +kernel
theorem dX2_placeOf_34 : decode cX2_placeOf 34 = .ok (.ireturn, 1) := by decide +kernel
theorem dX3_init_0 : decode cX3_init 0 = .ok (.aload_n 0, 1) := by decide +kernel
theorem dX3_init_1 : decode cX3_init 1 = .ok (.invokespecial 3, 3) := by decide +kernel
theorem dX3_init_4 : decode cX3_init 4 = .ok (.aload_n 0, 1) := by decide +kernel
theorem dX3_init_5 : decode cX3_init 5 = .ok (.bipush 6, 2) := by decide +kernel
theorem dX3_init_7 : decode cX3_init 7 = .ok (.newarray .int, 2) := by decide +kernel
theorem dX3_init_9 : decode cX3_init 9 = .ok (.putfield 9, 3) := by decide +kernel
theorem dX3_init_12 : decode cX3_init 12 = .ok (.aload_n 0, 1) := by decide +kernel
theorem dX3_init_13 : decode cX3_init 13 = .ok (.bipush 6, 2) := by decide +kernel
theorem dX3_init_15 : decode cX3_init 15 = .ok (.newarray .int, 2) := by decide +kernel
theorem dX3_init_17 : decode cX3_init 17 = .ok (.putfield 15, 3) := by decide +kernel
theorem dX3_init_20 : decode cX3_init 20 = .ok (.iconst 0, 1) := by decide +kernel
theorem dX3_init_21 : decode cX3_init 21 = .ok (.istore_n 1, 1) := by decide +kernel
theorem dX3_init_22 : decode cX3_init 22 = .ok (.iload_n 1, 1) := by decide +kernel
theorem dX3_init_23 : decode cX3_init 23 = .ok (.bipush 6, 2) := by decide +kernel
theorem dX3_init_25 : decode cX3_init 25 = .ok (.if_icmp .ge 16, 3) := by decide +kernel
theorem dX3_init_28 : decode cX3_init 28 = .ok (.aload_n 0, 1) := by decide +kernel
theorem dX3_init_29 : decode cX3_init 29 = .ok (.getfield 9, 3) := by decide +kernel
theorem dX3_init_32 : decode cX3_init 32 = .ok (.iload_n 1, 1) := by decide +kernel
theorem dX3_init_33 : decode cX3_init 33 = .ok (.iload_n 1, 1) := by decide +kernel
theorem dX3_init_34 : decode cX3_init 34 = .ok (.iastore, 1) := by decide +kernel
theorem dX3_init_35 : decode cX3_init 35 = .ok (.iinc 1 1, 3) := by decide +kernel
theorem dX3_init_38 : decode cX3_init 38 = .ok (.goto (-16), 3) := by decide +kernel
theorem dX3_init_41 : decode cX3_init 41 = .ok (.return_, 1) := by decide +kernel
theorem dX3_exchange_0 : decode cX3_exchange 0 = .ok (.iconst (-1), 1) := by decide +kernel
theorem dX3_exchange_1 : decode cX3_exchange 1 = .ok (.istore_n 3, 1) := by decide +kernel
theorem dX3_exchange_2 : decode cX3_exchange 2 = .ok (.iconst 0, 1) := by decide +kernel
theorem dX3_exchange_3 : decode cX3_exchange 3 = .ok (.istore 4, 2) := by decide +kernel
theorem dX3_exchange_5 : decode cX3_exchange 5 = .ok (.iload 4, 2) := by decide +kernel
theorem dX3_exchange_7 : decode cX3_exchange 7 = .ok (.bipush 6, 2) := by decide +kernel
theorem dX3_exchange_9 : decode cX3_exchange 9 = .ok (.if_icmp .ge 53, 3) := by decide +kernel
theorem dX3_exchange_12 : decode cX3_exchange 12 = .ok (.aload_n 0, 1) := by decide +kernel
theorem dX3_exchange_13 : decode cX3_exchange 13 = .ok (.getfield 9, 3) := by decide +kernel
theorem dX3_exchange_16 : decode cX3_exchange 16 = .ok (.iload 4, 2) := by decide +kernel
theorem dX3_exchange_18 : decode cX3_exchange 18 = .ok (.iaload, 1) := by decide +kernel
theorem dX3_exchange_19 : decode cX3_exchange 19 = .ok (.iload_n 1, 1) := by decide +kernel
theorem dX3_exchange_20 : decode cX3_exchange 20 = .ok (.if_icmp .ne 14, 3) := by decide +kernel
theorem dX3_exchange_23 : decode cX3_exchange 23 = .ok (.aload_n 0, 1) := by decide +kernel
theorem dX3_exchange_24 : decode cX3_exchange 24 = .ok (.getfield 9, 3) := by decide +kernel
theorem dX3_exchange_27 : decode cX3_exchange 27 = .ok (.iload 4, 2) := by decide +kernel
theorem dX3_exchange_29 : decode cX3_exchange 29 = .ok (.iload_n 2, 1) := by decide +kernel
theorem dX3_exchange_30 : decode cX3_exchange 30 = .ok (.iastore, 1) := by decide +kernel
theorem dX3_exchange_31 : decode cX3_exchange 31 = .ok (.goto 25, 3) := by decide +kernel
theorem dX3_exchange_34 : decode cX3_exchange 34 = .ok (.aload_n 0, 1) := by decide +kernel
theorem dX3_exchange_35 : decode cX3_exchange 35 = .ok (.getfield 9, 3) := by decide +kernel
theorem dX3_exchange_38 : decode cX3_exchange 38 = .ok (.iload 4, 2) := by decide +kernel
theorem dX3_exchange_40 : decode cX3_exchange 40 = .ok (.iaload, 1) := by decide +kernel
theorem dX3_exchange_41 : decode cX3_exchange 41 = .ok (.iload_n 2, 1) := by decide +kernel
theorem dX3_exchange_42 : decode cX3_exchange 42 = .ok (.if_icmp .ne 14, 3) := by decide +kernel
theorem dX3_exchange_45 : decode cX3_exchange 45 = .ok (.aload_n 0, 1) := by decide +kernel
theorem dX3_exchange_46 : decode cX3_exchange 46 = .ok (.getfield 9, 3) := by decide +kernel
theorem dX3_exchange_49 : decode cX3_exchange 49 = .ok (.iload 4, 2) := by decide +kernel
theorem dX3_exchange_51 : decode cX3_exchange 51 = .ok (.iload_n 1, 1) := by decide +kernel
theorem dX3_exchange_52 : decode cX3_exchange 52 = .ok (.iastore, 1) := by decide +kernel
theorem dX3_exchange_53 : decode cX3_exchange 53 = .ok (.iload 4, 2) := by decide +kernel
theorem dX3_exchange_55 : decode cX3_exchange 55 = .ok (.istore_n 3, 1) := by decide +kernel
theorem dX3_exchange_56 : decode cX3_exchange 56 = .ok (.iinc 4 1, 3) := by decide +kernel
theorem dX3_exchange_59 : decode cX3_exchange 59 = .ok (.goto (-54), 3) := by decide +kernel
theorem dX3_exchange_62 : decode cX3_exchange 62 = .ok (.iload_n 3, 1) := by decide +kernel
theorem dX3_exchange_63 : decode cX3_exchange 63 = .ok (.ireturn, 1) := by decide +kernel
theorem dX3_sendLast_0 : decode cX3_sendLast 0 = .ok (.iconst 0, 1) := by decide +kernel
theorem dX3_sendLast_1 : decode cX3_sendLast 1 = .ok (.istore_n 2, 1) := by decide +kernel
theorem dX3_sendLast_2 : decode cX3_sendLast 2 = .ok (.iconst 0, 1) := by decide +kernel
theorem dX3_sendLast_3 : decode cX3_sendLast 3 = .ok (.istore_n 3, 1) := by decide +kernel
theorem dX3_sendLast_4 : decode cX3_sendLast 4 = .ok (.iload_n 3, 1) := by decide +kernel
theorem dX3_sendLast_5 : decode cX3_sendLast 5 = .ok (.bipush 6, 2) := by decide +kernel
theorem dX3_sendLast_7 : decode cX3_sendLast 7 = .ok (.if_icmp .ge 34, 3) := by decide +kernel
theorem dX3_sendLast_10 : decode cX3_sendLast 10 = .ok (.aload_n 0, 1) := by decide +kernel
theorem dX3_sendLast_11 : decode cX3_sendLast 11 = .ok (.getfield 9, 3) := by decide +kernel
theorem dX3_sendLast_14 : decode cX3_sendLast 14 = .ok (.iload_n 3, 1) := by decide +kernel
theorem dX3_sendLast_15 : decode cX3_sendLast 15 = .ok (.iaload, 1) := by decide +kernel
theorem dX3_sendLast_16 : decode cX3_sendLast 16 = .ok (.iload_n 1, 1) := by decide +kernel
theorem dX3_sendLast_17 : decode cX3_sendLast 17 = .ok (.if_icmp .eq 18, 3) := by decide +kernel
theorem dX3_sendLast_20 : decode cX3_sendLast 20 = .ok (.aload_n 0, 1) := by decide +kernel
theorem dX3_sendLast_21 : decode cX3_sendLast 21 = .ok (.getfield 9, 3) := by decide +kernel
theorem dX3_sendLast_24 : decode cX3_sendLast 24 = .ok (.iload_n 2, 1) := by decide +kernel
theorem dX3_sendLast_25 : decode cX3_sendLast 25 = .ok (.aload_n 0, 1) := by decide +kernel
theorem dX3_sendLast_26 : decode cX3_sendLast 26 = .ok (.getfield 9, 3) := by decide +kernel
theorem dX3_sendLast_29 : decode cX3_sendLast 29 = .ok (.iload_n 3, 1) := by decide +kernel
theorem dX3_sendLast_30 : decode cX3_sendLast 30 = .ok (.iaload, 1) := by decide +kernel
theorem dX3_sendLast_31 : decode cX3_sendLast 31 = .ok (.iastore, 1) := by decide +kernel
theorem dX3_sendLast_32 : decode cX3_sendLast 32 = .ok (.iinc 2 1, 3) := by decide +kernel
theorem dX3_sendLast_35 : decode cX3_sendLast 35 = .ok (.iinc 3 1, 3) := by decide +kernel
theorem dX3_sendLast_38 : decode cX3_sendLast 38 = .ok (.goto (-34), 3) := by decide +kernel
theorem dX3_sendLast_41 : decode cX3_sendLast 41 = .ok (.aload_n 0, 1) := by decide +kernel
theorem dX3_sendLast_42 : decode cX3_sendLast 42 = .ok (.getfield 9, 3) := by decide +kernel
theorem dX3_sendLast_45 : decode cX3_sendLast 45 = .ok (.iconst 5, 1) := by decide +kernel
theorem dX3_sendLast_46 : decode cX3_sendLast 46 = .ok (.iload_n 1, 1) := by decide +kernel
theorem dX3_sendLast_47 : decode cX3_sendLast 47 = .ok (.iastore, 1) := by decide +kernel
theorem dX3_sendLast_48 : decode cX3_sendLast 48 = .ok (.return_, 1) := by decide +kernel
theorem dX4_init_0 : decode cX4_init 0 = .ok (.aload_n 0, 1) := by decide +kernel
theorem dX4_init_1 : decode cX4_init 1 = .ok (.invokespecial 3, 3) := by decide +kernel
theorem dX4_init_4 : decode cX4_init 4 = .ok (.aload_n 0, 1) := by decide +kernel
theorem dX4_init_5 : decode cX4_init 5 = .ok (.iconst 0, 1) := by decide +kernel
theorem dX4_init_6 : decode cX4_init 6 = .ok (.putfield 9, 3) := by decide +kernel
theorem dX4_init_9 : decode cX4_init 9 = .ok (.aload_n 0, 1) := by decide +kernel
theorem dX4_init_10 : decode cX4_init 10 = .ok (.iconst (-1), 1) := by decide +kernel
theorem dX4_init_11 : decode cX4_init 11 = .ok (.putfield 15, 3) := by decide +kernel
theorem dX4_init_14 : decode cX4_init 14 = .ok (.aload_n 0, 1) := by decide +kernel
theorem dX4_init_15 : decode cX4_init 15 = .ok (.iconst (-1), 1) := by decide +kernel
theorem dX4_init_16 : decode cX4_init 16 = .ok (.putfield 18, 3) := by decide +kernel
theorem dX4_init_19 : decode cX4_init 19 = .ok (.aload_n 0, 1) := by decide +kernel
theorem dX4_init_20 : decode cX4_init 20 = .ok (.iconst 0, 1) := by decide +kernel
theorem dX4_init_21 : decode cX4_init 21 = .ok (.putfield 21, 3) := by decide +kernel
theorem dX4_init_24 : decode cX4_init 24 = .ok (.aload_n 0, 1) := by decide +kernel
theorem dX4_init_25 : decode cX4_init 25 = .ok (.iconst 0, 1) := by decide +kernel
theorem dX4_init_26 : decode cX4_init 26 = .ok (.putfield 24, 3) := by decide +kernel
theorem dX4_init_29 : decode cX4_init 29 = .ok (.aload_n 0, 1) := by decide +kernel
theorem dX4_init_30 : decode cX4_init 30 = .ok (.iconst 0, 1) := by decide +kernel
theorem dX4_init_31 : decode cX4_init 31 = .ok (.putfield 27, 3) := by decide +kernel
theorem dX4_init_34 : decode cX4_init 34 = .ok (.aload_n 0, 1) := by decide +kernel
theorem dX4_init_35 : decode cX4_init 35 = .ok (.iload_n 1, 1) := by decide +kernel
theorem dX4_init_36 : decode cX4_init 36 = .ok (.putfield 30, 3) := by decide +kernel
theorem dX4_init_39 : decode cX4_init 39 = .ok (.aload_n 0, 1) := by decide +kernel
theorem dX4_init_40 : decode cX4_init 40 = .ok (.iload_n 2, 1) := by decide +kernel
theorem dX4_init_41 : decode cX4_init 41 = .ok (.putfield 33, 3) := by decide +kernel
theorem dX4_init_44 : decode cX4_init 44 = .ok (.aload_n 0, 1) := by decide +kernel
theorem dX4_init_45 : decode cX4_init 45 = .ok (.iload_n 3, 1) := by decide +kernel
theorem dX4_init_46 : decode cX4_init 46 = .ok (.putfield 36, 3) := by decide +kernel
theorem dX4_init_49 : decode cX4_init 49 = .ok (.aload_n 0, 1) := by decide +kernel
theorem dX4_init_50 : decode cX4_init 50 = .ok (.iload 4, 2) := by decide +kernel
theorem dX4_init_52 : decode cX4_init 52 = .ok (.putfield 39, 3) := by decide +kernel
theorem dX4_init_55 : decode cX4_init 55 = .ok (.aload_n 0, 1) := by decide +kernel
theorem dX4_init_56 : decode cX4_init 56 = .ok (.iload 5, 2) := by decide +kernel
theorem dX4_init_58 : decode cX4_init 58 = .ok (.putfield 42, 3) := by decide +kernel
theorem dX4_init_61 : decode cX4_init 61 = .ok (.return_, 1) := by decide +kernel
theorem dX4_canMove_0 : decode cX4_canMove 0 = .ok (.aload_n 0, 1) := by decide +kernel
theorem dX4_canMove_1 : decode cX4_canMove 1 = .ok (.getfield 9, 3) := by decide +kernel
theorem dX4_canMove_4 : decode cX4_canMove 4 = .ok (.ifCond .eq 11, 3) := by decide +kernel
theorem dX4_canMove_7 : decode cX4_canMove 7 = .ok (.aload_n 0, 1) := by decide +kernel
theorem dX4_canMove_8 : decode cX4_canMove 8 = .ok (.getfield 9, 3) := by decide +kernel
theorem dX4_canMove_11 : decode cX4_canMove 11 = .ok (.iconst 2, 1) := by decide +kernel
theorem dX4_canMove_12 : decode cX4_canMove 12 = .ok (.if_icmp .ne 7, 3) := by decide +kernel
theorem dX4_canMove_15 : decode cX4_canMove 15 = .ok (.iconst 1, 1) := by decide +kernel
theorem dX4_canMove_16 : decode cX4_canMove 16 = .ok (.goto 4, 3) := by decide +kernel
theorem dX4_canMove_19 : decode cX4_canMove 19 = .ok (.iconst 0, 1) := by decide +kernel
theorem dX4_canMove_20 : decode cX4_canMove 20 = .ok (.ireturn, 1) := by decide +kernel
theorem dX4_hasOrder_0 : decode cX4_hasOrder 0 = .ok (.aload_n 0, 1) := by decide +kernel
theorem dX4_hasOrder_1 : decode cX4_hasOrder 1 = .ok (.getfield 18, 3) := by decide +kernel
theorem dX4_hasOrder_4 : decode cX4_hasOrder 4 = .ok (.iconst (-1), 1) := by decide +kernel
theorem dX4_hasOrder_5 : decode cX4_hasOrder 5 = .ok (.if_icmp .eq 7, 3) := by decide +kernel
theorem dX4_hasOrder_8 : decode cX4_hasOrder 8 = .ok (.iconst 1, 1) := by decide +kernel
theorem dX4_hasOrder_9 : decode cX4_hasOrder 9 = .ok (.goto 4, 3) := by decide +kernel
theorem dX4_hasOrder_12 : decode cX4_hasOrder 12 = .ok (.iconst 0, 1) := by decide +kernel
theorem dX4_hasOrder_13 : decode cX4_hasOrder 13 = .ok (.ireturn, 1) := by decide +kernel
theorem dX4_beginMove_0 : decode cX4_beginMove 0 = .ok (.aload_n 0, 1) := by decide +kernel
theorem dX4_beginMove_1 : decode cX4_beginMove 1 = .ok (.iload_n 2, 1) := by decide +kernel
theorem dX4_beginMove_2 : decode cX4_beginMove 2 = .ok (.ifCond .eq 7, 3) := by decide +kernel
theorem dX4_beginMove_5 : decode cX4_beginMove 5 = .ok (.iconst 3, 1) := by decide +kernel
theorem dX4_beginMove_6 : decode cX4_beginMove 6 = .ok (.goto 4, 3) := by decide +kernel
theorem dX4_beginMove_9 : decode cX4_beginMove 9 = .ok (.iconst 1, 1) := by decide +kernel
theorem dX4_beginMove_10 : decode cX4_beginMove 10 = .ok (.putfield 9, 3) := by decide +kernel
theorem dX4_beginMove_13 : decode cX4_beginMove 13 = .ok (.aload_n 0, 1) := by decide +kernel
theorem dX4_beginMove_14 : decode cX4_beginMove 14 = .ok (.iload_n 1, 1) := by decide +kernel
theorem dX4_beginMove_15 : decode cX4_beginMove 15 = .ok (.putfield 15, 3) := by decide +kernel
theorem dX4_beginMove_18 : decode cX4_beginMove 18 = .ok (.return_, 1) := by decide +kernel
theorem dX4_endMove_0 : decode cX4_endMove 0 = .ok (.aload_n 0, 1) := by decide +kernel
theorem dX4_endMove_1 : decode cX4_endMove 1 = .ok (.invokevirtual 45, 3) := by decide +kernel
theorem dX4_endMove_4 : decode cX4_endMove 4 = .ok (.ifCond .ne 21, 3) := by decide +kernel
theorem dX4_endMove_7 : decode cX4_endMove 7 = .ok (.aload_n 0, 1) := by decide +kernel
theorem dX4_endMove_8 : decode cX4_endMove 8 = .ok (.getfield 9, 3) := by decide +kernel
theorem dX4_endMove_11 : decode cX4_endMove 11 = .ok (.iconst 4, 1) := by decide +kernel
theorem dX4_endMove_12 : decode cX4_endMove 12 = .ok (.if_icmp .eq 13, 3) := by decide +kernel
theorem dX4_endMove_15 : decode cX4_endMove 15 = .ok (.iload_n 1, 1) := by decide +kernel
theorem dX4_endMove_16 : decode cX4_endMove 16 = .ok (.aload_n 0, 1) := by decide +kernel
theorem dX4_endMove_17 : decode cX4_endMove 17 = .ok (.getfield 15, 3) := by decide +kernel
theorem dX4_endMove_20 : decode cX4_endMove 20 = .ok (.isub, 1) := by decide +kernel
theorem dX4_endMove_21 : decode cX4_endMove 21 = .ok (.iconst 2, 1) := by decide +kernel
theorem dX4_endMove_22 : decode cX4_endMove 22 = .ok (.if_icmp .ge 4, 3) := by decide +kernel
theorem dX4_endMove_25 : decode cX4_endMove 25 = .ok (.return_, 1) := by decide +kernel
theorem dX4_endMove_26 : decode cX4_endMove 26 = .ok (.aload_n 0, 1) := by decide +kernel
theorem dX4_endMove_27 : decode cX4_endMove 27 = .ok (.aload_n 0, 1) := by decide +kernel
theorem dX4_endMove_28 : decode cX4_endMove 28 = .ok (.getfield 9, 3) := by decide +kernel
theorem dX4_endMove_31 : decode cX4_endMove 31 = .ok (.iconst 1, 1) := by decide +kernel
theorem dX4_endMove_32 : decode cX4_endMove 32 = .ok (.if_icmp .ne 7, 3) := by decide +kernel
theorem dX4_endMove_35 : decode cX4_endMove 35 = .ok (.iconst 2, 1) := by decide +kernel
theorem dX4_endMove_36 : decode cX4_endMove 36 = .ok (.goto 4, 3) := by decide +kernel
theorem dX4_endMove_39 : decode cX4_endMove 39 = .ok (.iconst 4, 1) := by decide +kernel
theorem dX4_endMove_40 : decode cX4_endMove 40 = .ok (.putfield 9, 3) := by decide +kernel
theorem dX4_endMove_43 : decode cX4_endMove 43 = .ok (.return_, 1) := by decide +kernel
theorem dX4_isAheadOf_0 : decode cX4_isAheadOf 0 = .ok (.aload_n 0, 1) := by decide +kernel
theorem dX4_isAheadOf_1 : decode cX4_isAheadOf 1 = .ok (.getfield 39, 3) := by decide +kernel
theorem dX4_isAheadOf_4 : decode cX4_isAheadOf 4 = .ok (.aload_n 1, 1) := by decide +kernel
theorem dX4_isAheadOf_5 : decode cX4_isAheadOf 5 = .ok (.getfield 39, 3) := by decide +kernel
theorem dX4_isAheadOf_8 : decode cX4_isAheadOf 8 = .ok (.if_icmp .eq 20, 3) := by decide +kernel
theorem dX4_isAheadOf_11 : decode cX4_isAheadOf 11 = .ok (.aload_n 0, 1) := by decide +kernel
theorem dX4_isAheadOf_12 : decode cX4_isAheadOf 12 = .ok (.getfield 39, 3) := by decide +kernel
theorem dX4_isAheadOf_15 : decode cX4_isAheadOf 15 = .ok (.aload_n 1, 1) := by decide +kernel
theorem dX4_isAheadOf_16 : decode cX4_isAheadOf 16 = .ok (.getfield 39, 3) := by decide +kernel
theorem dX4_isAheadOf_19 : decode cX4_isAheadOf 19 = .ok (.if_icmp .le 7, 3) := by decide +kernel
theorem dX4_isAheadOf_22 : decode cX4_isAheadOf 22 = .ok (.iconst 1, 1) := by decide +kernel
theorem dX4_isAheadOf_23 : decode cX4_isAheadOf 23 = .ok (.goto 4, 3) := by decide +kernel
theorem dX4_isAheadOf_26 : decode cX4_isAheadOf 26 = .ok (.iconst 0, 1) := by decide +kernel
theorem dX4_isAheadOf_27 : decode cX4_isAheadOf 27 = .ok (.ireturn, 1) := by decide +kernel
theorem dX4_isAheadOf_28 : decode cX4_isAheadOf 28 = .ok (.aload_n 0, 1) := by decide +kernel
theorem dX4_isAheadOf_29 : decode cX4_isAheadOf 29 = .ok (.getfield 18, 3) := by decide +kernel
theorem dX4_isAheadOf_32 : decode cX4_isAheadOf 32 = .ok (.aload_n 1, 1) := by decide +kernel
theorem dX4_isAheadOf_33 : decode cX4_isAheadOf 33 = .ok (.getfield 18, 3) := by decide +kernel
theorem dX4_isAheadOf_36 : decode cX4_isAheadOf 36 = .ok (.if_icmp .eq 20, 3) := by decide +kernel
theorem dX4_isAheadOf_39 : decode cX4_isAheadOf 39 = .ok (.aload_n 0, 1) := by decide +kernel
theorem dX4_isAheadOf_40 : decode cX4_isAheadOf 40 = .ok (.getfield 18, 3) := by decide +kernel
theorem dX4_isAheadOf_43 : decode cX4_isAheadOf 43 = .ok (.aload_n 1, 1) := by decide +kernel
theorem dX4_isAheadOf_44 : decode cX4_isAheadOf 44 = .ok (.getfield 18, 3) := by decide +kernel
theorem dX4_isAheadOf_47 : decode cX4_isAheadOf 47 = .ok (.if_icmp .ge 7, 3) := by decide +kernel
theorem dX4_isAheadOf_50 : decode cX4_isAheadOf 50 = .ok (.iconst 1, 1) := by decide +kernel
theorem dX4_isAheadOf_51 : decode cX4_isAheadOf 51 = .ok (.goto 4, 3) := by decide +kernel
theorem dX4_isAheadOf_54 : decode cX4_isAheadOf 54 = .ok (.iconst 0, 1) := by decide +kernel
theorem dX4_isAheadOf_55 : decode cX4_isAheadOf 55 = .ok (.ireturn, 1) := by decide +kernel
theorem dX4_isAheadOf_56 : decode cX4_isAheadOf 56 = .ok (.aload_n 0, 1) := by decide +kernel
theorem dX4_isAheadOf_57 : decode cX4_isAheadOf 57 = .ok (.getfield 30, 3) := by decide +kernel
theorem dX4_isAheadOf_60 : decode cX4_isAheadOf 60 = .ok (.aload_n 1, 1) := by decide +kernel
theorem dX4_isAheadOf_61 : decode cX4_isAheadOf 61 = .ok (.getfield 30, 3) := by decide +kernel
theorem dX4_isAheadOf_64 : decode cX4_isAheadOf 64 = .ok (.if_icmp .ge 7, 3) := by decide +kernel
theorem dX4_isAheadOf_67 : decode cX4_isAheadOf 67 = .ok (.iconst 1, 1) := by decide +kernel
theorem dX4_isAheadOf_68 : decode cX4_isAheadOf 68 = .ok (.goto 4, 3) := by decide +kernel
theorem dX4_isAheadOf_71 : decode cX4_isAheadOf 71 = .ok (.iconst 0, 1) := by decide +kernel
theorem dX4_isAheadOf_72 : decode cX4_isAheadOf 72 = .ok (.ireturn, 1) := by decide +kernel
theorem dX5_init_0 : decode cX5_init 0 = .ok (.aload_n 0, 1) := by decide +kernel
theorem dX5_init_1 : decode cX5_init 1 = .ok (.invokespecial 3, 3) := by decide +kernel
theorem dX5_init_4 : decode cX5_init 4 = .ok (.aload_n 0, 1) := by decide +kernel
theorem dX5_init_5 : decode cX5_init 5 = .ok (.bipush 12, 2) := by decide +kernel
theorem dX5_init_7 : decode cX5_init 7 = .ok (.newarray .int, 2) := by decide +kernel
theorem dX5_init_9 : decode cX5_init 9 = .ok (.putfield 9, 3) := by decide +kernel
theorem dX5_init_12 : decode cX5_init 12 = .ok (.aload_n 0, 1) := by decide +kernel
theorem dX5_init_13 : decode cX5_init 13 = .ok (.sipush 3101, 3) := by decide +kernel
theorem dX5_init_16 : decode cX5_init 16 = .ok (.newarray .int, 2) := by decide +kernel
theorem dX5_init_18 : decode cX5_init 18 = .ok (.putfield 15, 3) := by decide +kernel
theorem dX5_init_21 : decode cX5_init 21 = .ok (.aload_n 0, 1) := by decide +kernel
theorem dX5_init_22 : decode cX5_init 22 = .ok (.bipush 6, 2) := by decide +kernel
theorem dX5_init_24 : decode cX5_init 24 = .ok (.newarray .int, 2) := by decide +kernel
theorem dX5_init_26 : decode cX5_init 26 = .ok (.putfield 18, 3) := by decide +kernel
theorem dX5_init_29 : decode cX5_init 29 = .ok (.aload_n 0, 1) := by decide +kernel
theorem dX5_init_30 : decode cX5_init 30 = .ok (.getfield 9, 3) := by decide +kernel
theorem dX5_init_33 : decode cX5_init 33 = .ok (.bipush 50, 2) := by decide +kernel
theorem dX5_init_35 : decode cX5_init 35 = .ok (.invokestatic 21, 3) := by decide +kernel
theorem dX5_init_38 : decode cX5_init 38 = .ok (.aload_n 0, 1) := by decide +kernel
theorem dX5_init_39 : decode cX5_init 39 = .ok (.getfield 18, 3) := by decide +kernel
theorem dX5_init_42 : decode cX5_init 42 = .ok (.bipush 60, 2) := by decide +kernel
theorem dX5_init_44 : decode cX5_init 44 = .ok (.invokestatic 21, 3) := by decide +kernel
theorem dX5_init_47 : decode cX5_init 47 = .ok (.return_, 1) := by decide +kernel
theorem dX5_tellSurge_0 : decode cX5_tellSurge 0 = .ok (.iload_n 1, 1) := by decide +kernel
theorem dX5_tellSurge_1 : decode cX5_tellSurge 1 = .ok (.iload_n 2, 1) := by decide +kernel
theorem dX5_tellSurge_2 : decode cX5_tellSurge 2 = .ok (.iadd, 1) := by decide +kernel
theorem dX5_tellSurge_3 : decode cX5_tellSurge 3 = .ok (.aload_n 0, 1) := by decide +kernel
theorem dX5_tellSurge_4 : decode cX5_tellSurge 4 = .ok (.getfield 15, 3) := by decide +kernel
theorem dX5_tellSurge_7 : decode cX5_tellSurge 7 = .ok (.arraylength, 1) := by decide +kernel
theorem dX5_tellSurge_8 : decode cX5_tellSurge 8 = .ok (.invokestatic 27, 3) := by decide +kernel
theorem dX5_tellSurge_11 : decode cX5_tellSurge 11 = .ok (.istore 4, 2) := by decide +kernel
theorem dX5_tellSurge_13 : decode cX5_tellSurge 13 = .ok (.iload_n 1, 1) := by decide +kernel
theorem dX5_tellSurge_14 : decode cX5_tellSurge 14 = .ok (.istore 5, 2) := by decide +kernel
theorem dX5_tellSurge_16 : decode cX5_tellSurge 16 = .ok (.iload 5, 2) := by decide +kernel
theorem dX5_tellSurge_18 : decode cX5_tellSurge 18 = .ok (.iload 4, 2) := by decide +kernel
theorem dX5_tellSurge_20 : decode cX5_tellSurge 20 = .ok (.if_icmp .ge 17, 3) := by decide +kernel
theorem dX5_tellSurge_23 : decode cX5_tellSurge 23 = .ok (.aload_n 0, 1) := by decide +kernel
theorem dX5_tellSurge_24 : decode cX5_tellSurge 24 = .ok (.getfield 15, 3) := by decide +kernel
theorem dX5_tellSurge_27 : decode cX5_tellSurge 27 = .ok (.iload 5, 2) := by decide +kernel
theorem dX5_tellSurge_29 : decode cX5_tellSurge 29 = .ok (.iload_n 3, 1) := by decide +kernel
theorem dX5_tellSurge_30 : decode cX5_tellSurge 30 = .ok (.iastore, 1) := by decide +kernel
theorem dX5_tellSurge_31 : decode cX5_tellSurge 31 = .ok (.iinc 5 1, 3) := by decide +kernel
theorem dX5_tellSurge_34 : decode cX5_tellSurge 34 = .ok (.goto (-18), 3) := by decide +kernel
theorem dX5_tellSurge_37 : decode cX5_tellSurge 37 = .ok (.return_, 1) := by decide +kernel
theorem dX5_depthAt_0 : decode cX5_depthAt 0 = .ok (.aload_n 0, 1) := by decide +kernel
theorem dX5_depthAt_1 : decode cX5_depthAt 1 = .ok (.getfield 9, 3) := by decide +kernel
theorem dX5_depthAt_4 : decode cX5_depthAt 4 = .ok (.iload_n 1, 1) := by decide +kernel
theorem dX5_depthAt_5 : decode cX5_depthAt 5 = .ok (.bipush 12, 2) := by decide +kernel
theorem dX5_depthAt_7 : decode cX5_depthAt 7 = .ok (.irem, 1) := by decide +kernel
theorem dX5_depthAt_8 : decode cX5_depthAt 8 = .ok (.iaload, 1) := by decide +kernel
theorem dX5_depthAt_9 : decode cX5_depthAt 9 = .ok (.aload_n 0, 1) := by decide +kernel
theorem dX5_depthAt_10 : decode cX5_depthAt 10 = .ok (.getfield 15, 3) := by decide +kernel
theorem dX5_depthAt_13 : decode cX5_depthAt 13 = .ok (.iload_n 1, 1) := by decide +kernel
theorem dX5_depthAt_14 : decode cX5_depthAt 14 = .ok (.iaload, 1) := by decide +kernel
theorem dX5_depthAt_15 : decode cX5_depthAt 15 = .ok (.iadd, 1) := by decide +kernel
theorem dX5_depthAt_16 : decode cX5_depthAt 16 = .ok (.ireturn, 1) := by decide +kernel
theorem dX5_carries_0 : decode cX5_carries 0 = .ok (.aload_n 1, 1) := by decide +kernel
theorem dX5_carries_1 : decode cX5_carries 1 = .ok (.getfield 33, 3) := by decide +kernel
theorem dX5_carries_4 : decode cX5_carries 4 = .ok (.iconst 5, 1) := by decide +kernel
theorem dX5_carries_5 : decode cX5_carries 5 = .ok (.iadd, 1) := by decide +kernel
theorem dX5_carries_6 : decode cX5_carries 6 = .ok (.istore 4, 2) := by decide +kernel
theorem dX5_carries_8 : decode cX5_carries 8 = .ok (.aload_n 0, 1) := by decide +kernel
theorem dX5_carries_9 : decode cX5_carries 9 = .ok (.iload_n 2, 1) := by decide +kernel
theorem dX5_carries_10 : decode cX5_carries 10 = .ok (.ifCond .eq 9, 3) := by decide +kernel
theorem dX5_carries_13 : decode cX5_carries 13 = .ok (.iload_n 3, 1) := by decide +kernel
theorem dX5_carries_14 : decode cX5_carries 14 = .ok (.iconst 1, 1) := by decide +kernel
theorem dX5_carries_15 : decode cX5_carries 15 = .ok (.iadd, 1) := by decide +kernel
theorem dX5_carries_16 : decode cX5_carries 16 = .ok (.goto 4, 3) := by decide +kernel
theorem dX5_carries_19 : decode cX5_carries 19 = .ok (.iload_n 3, 1) := by decide +kernel
theorem dX5_carries_20 : decode cX5_carries 20 = .ok (.invokevirtual 39, 3) := by decide +kernel
theorem dX5_carries_23 : decode cX5_carries 23 = .ok (.bipush 30, 2) := by decide +kernel
theorem dX5_carries_25 : decode cX5_carries 25 = .ok (.iadd, 1) := by decide +kernel
theorem dX5_carries_26 : decode cX5_carries 26 = .ok (.istore 5, 2) := by decide +kernel
theorem dX5_carries_28 : decode cX5_carries 28 = .ok (.aload_n 0, 1) := by decide +kernel
theorem dX5_carries_29 : decode cX5_carries 29 = .ok (.iload_n 2, 1) := by decide +kernel
theorem dX5_carries_30 : decode cX5_carries 30 = .ok (.ifCond .eq 7, 3) := by decide +kernel
theorem dX5_carries_33 : decode cX5_carries 33 = .ok (.iload_n 3, 1) := by decide +kernel
theorem dX5_carries_34 : decode cX5_carries 34 = .ok (.goto 6, 3) := by decide +kernel
theorem dX5_carries_37 : decode cX5_carries 37 = .ok (.iload_n 3, 1) := by decide +kernel
theorem dX5_carries_38 : decode cX5_carries 38 = .ok (.iconst 1, 1) := by decide +kernel
theorem dX5_carries_39 : decode cX5_carries 39 = .ok (.iadd, 1) := by decide +kernel
theorem dX5_carries_40 : decode cX5_carries 40 = .ok (.invokevirtual 39, 3) := by decide +kernel
theorem dX5_carries_43 : decode cX5_carries 43 = .ok (.aload_n 0, 1) := by decide +kernel
theorem dX5_carries_44 : decode cX5_carries 44 = .ok (.getfield 18, 3) := by decide +kernel
theorem dX5_carries_47 : decode cX5_carries 47 = .ok (.aload_n 1, 1) := by decide +kernel
theorem dX5_carries_48 : decode cX5_carries 48 = .ok (.getfield 43, 3) := by decide +kernel
theorem dX5_carries_51 : decode cX5_carries 51 = .ok (.iaload, 1) := by decide +kernel
theorem dX5_carries_52 : decode cX5_carries 52 = .ok (.iadd, 1) := by decide +kernel
theorem dX5_carries_53 : decode cX5_carries 53 = .ok (.istore 6, 2) := by decide +kernel
theorem dX5_carries_55 : decode cX5_carries 55 = .ok (.iload 5, 2) := by decide +kernel
theorem dX5_carries_57 : decode cX5_carries 57 = .ok (.iload 4, 2) := by decide +kernel
theorem dX5_carries_59 : decode cX5_carries 59 = .ok (.if_icmp .lt 14, 3) := by decide +kernel
theorem dX5_carries_62 : decode cX5_carries 62 = .ok (.iload 6, 2) := by decide +kernel
theorem dX5_carries_64 : decode cX5_carries 64 = .ok (.iload 4, 2) := by decide +kernel
theorem dX5_carries_66 : decode cX5_carries 66 = .ok (.if_icmp .lt 7, 3) := by decide +kernel
theorem dX5_carries_69 : decode cX5_carries 69 = .ok (.iconst 1, 1) := by decide +kernel
theorem dX5_carries_70 : decode cX5_carries 70 = .ok (.goto 4, 3) := by decide +kernel
theorem dX5_carries_73 : decode cX5_carries 73 = .ok (.iconst 0, 1) := by decide +kernel
theorem dX5_carries_74 : decode cX5_carries 74 = .ok (.ireturn, 1) := by decide +kernel
theorem dX6_init_0 : decode cX6_init 0 = .ok (.aload_n 0, 1) := by decide +kernel
theorem dX6_init_1 : decode cX6_init 1 = .ok (.invokespecial 1, 3) := by decide +kernel
theorem dX6_init_4 : decode cX6_init 4 = .ok (.aload_n 0, 1) := by decide +kernel
theorem dX6_init_5 : decode cX6_init 5 = .ok (.new 7, 3) := by decide +kernel
theorem dX6_init_8 : decode cX6_init 8 = .ok (.dup, 1) := by decide +kernel
theorem dX6_init_9 : decode cX6_init 9 = .ok (.invokespecial 9, 3) := by decide +kernel
theorem dX6_init_12 : decode cX6_init 12 = .ok (.putfield 10, 3) := by decide +kernel
theorem dX6_init_15 : decode cX6_init 15 = .ok (.aload_n 0, 1) := by decide +kernel
theorem dX6_init_16 : decode cX6_init 16 = .ok (.new 16, 3) := by decide +kernel
theorem dX6_init_19 : decode cX6_init 19 = .ok (.dup, 1) := by decide +kernel
theorem dX6_init_20 : decode cX6_init 20 = .ok (.invokespecial 18, 3) := by decide +kernel
theorem dX6_init_23 : decode cX6_init 23 = .ok (.putfield 19, 3) := by decide +kernel
theorem dX6_init_26 : decode cX6_init 26 = .ok (.aload_n 0, 1) := by decide +kernel
theorem dX6_init_27 : decode cX6_init 27 = .ok (.new 23, 3) := by decide +kernel
theorem dX6_init_30 : decode cX6_init 30 = .ok (.dup, 1) := by decide +kernel
theorem dX6_init_31 : decode cX6_init 31 = .ok (.invokespecial 25, 3) := by decide +kernel
theorem dX6_init_34 : decode cX6_init 34 = .ok (.putfield 26, 3) := by decide +kernel
theorem dX6_init_37 : decode cX6_init 37 = .ok (.aload_n 0, 1) := by decide +kernel
theorem dX6_init_38 : decode cX6_init 38 = .ok (.new 30, 3) := by decide +kernel
theorem dX6_init_41 : decode cX6_init 41 = .ok (.dup, 1) := by decide +kernel
theorem dX6_init_42 : decode cX6_init 42 = .ok (.invokespecial 32, 3) := by decide +kernel
theorem dX6_init_45 : decode cX6_init 45 = .ok (.putfield 33, 3) := by decide +kernel
theorem dX6_init_48 : decode cX6_init 48 = .ok (.aload_n 0, 1) := by decide +kernel
theorem dX6_init_49 : decode cX6_init 49 = .ok (.new 37, 3) := by decide +kernel
theorem dX6_init_52 : decode cX6_init 52 = .ok (.dup, 1) := by decide +kernel
theorem dX6_init_53 : decode cX6_init 53 = .ok (.invokespecial 39, 3) := by decide +kernel
theorem dX6_init_56 : decode cX6_init 56 = .ok (.putfield 40, 3) := by decide +kernel
theorem dX6_init_59 : decode cX6_init 59 = .ok (.aload_n 0, 1) := by decide +kernel
theorem dX6_init_60 : decode cX6_init 60 = .ok (.iconst 0, 1) := by decide +kernel
theorem dX6_init_61 : decode cX6_init 61 = .ok (.putfield 44, 3) := by decide +kernel
theorem dX6_init_64 : decode cX6_init 64 = .ok (.aload_n 0, 1) := by decide +kernel
theorem dX6_init_65 : decode cX6_init 65 = .ok (.iconst 0, 1) := by decide +kernel
theorem dX6_init_66 : decode cX6_init 66 = .ok (.putfield 48, 3) := by decide +kernel
theorem dX6_init_69 : decode cX6_init 69 = .ok (.aload_n 0, 1) := by decide +kernel
theorem dX6_init_70 : decode cX6_init 70 = .ok (.iconst 0, 1) := by decide +kernel
theorem dX6_init_71 : decode cX6_init 71 = .ok (.putfield 51, 3) := by decide +kernel
theorem dX6_init_74 : decode cX6_init 74 = .ok (.return_, 1) := by decide +kernel
theorem dX6_table_0 : decode cX6_table 0 = .ok (.iload_n 1, 1) := by decide +kernel
theorem dX6_table_1 : decode cX6_table 1 = .ok (.bipush 12, 2) := by decide +kernel
theorem dX6_table_3 : decode cX6_table 3 = .ok (.invokestatic 54, 3) := by decide +kernel
theorem dX6_table_6 : decode cX6_table 6 = .ok (.iload_n 2, 1) := by decide +kernel
theorem dX6_table_7 : decode cX6_table 7 = .ok (.iconst 0, 1) := by decide +kernel
theorem dX6_table_8 : decode cX6_table 8 = .ok (.sipush 150, 3) := by decide +kernel
theorem dX6_table_11 : decode cX6_table 11 = .ok (.invokestatic 58, 3) := by decide +kernel
theorem dX6_table_14 : decode cX6_table 14 = .ok (.aload_n 0, 1) := by decide +kernel
theorem dX6_table_15 : decode cX6_table 15 = .ok (.getfield 26, 3) := by decide +kernel
theorem dX6_table_18 : decode cX6_table 18 = .ok (.invokevirtual 62, 3) := by decide +kernel
theorem dX6_table_21 : decode cX6_table 21 = .ok (.ifCond .le 13, 3) := by decide +kernel
theorem dX6_table_24 : decode cX6_table 24 = .ok (.new 66, 3) := by decide +kernel
theorem dX6_table_27 : decode cX6_table 27 = .ok (.dup, 1) := by decide +kernel
theorem dX6_table_28 : decode cX6_table 28 = .ok (.ldc 68, 2) := by decide +kernel
theorem dX6_table_30 : decode cX6_table 30 = .ok (.invokespecial 70, 3) := by decide +kernel
theorem dX6_table_33 : decode cX6_table 33 = .ok (.athrow, 1) := by decide +kernel
theorem dX6_table_34 : decode cX6_table 34 = .ok (.aload_n 0, 1) := by decide +kernel
theorem dX6_table_35 : decode cX6_table 35 = .ok (.getfield 10, 3) := by decide +kernel
theorem dX6_table_38 : decode cX6_table 38 = .ok (.getfield 73, 3) := by decide +kernel
theorem dX6_table_41 : decode cX6_table 41 = .ok (.iload_n 1, 1) := by decide +kernel
theorem dX6_table_42 : decode cX6_table 42 = .ok (.iaload, 1) := by decide +kernel
theorem dX6_table_43 : decode cX6_table 43 = .ok (.istore_n 3, 1) := by decide +kernel
theorem dX6_table_44 : decode cX6_table 44 = .ok (.aload_n 0, 1) := by decide +kernel
theorem dX6_table_45 : decode cX6_table 45 = .ok (.getfield 10, 3) := by decide +kernel
theorem dX6_table_48 : decode cX6_table 48 = .ok (.getfield 73, 3) := by decide +kernel
theorem dX6_table_51 : decode cX6_table 51 = .ok (.iload_n 1, 1) := by decide +kernel
theorem dX6_table_52 : decode cX6_table 52 = .ok (.iload_n 2, 1) := by decide +kernel
theorem dX6_table_53 : decode cX6_table 53 = .ok (.iastore, 1) := by decide +kernel
theorem dX6_table_54 : decode cX6_table 54 = .ok (.iload_n 3, 1) := by decide +kernel
theorem dX6_table_55 : decode cX6_table 55 = .ok (.ireturn, 1) := by decide +kernel
theorem dX6_wind_0 : decode cX6_wind 0 = .ok (.iload_n 1, 1) := by decide +kernel
theorem dX6_wind_1 : decode cX6_wind 1 = .ok (.aload_n 0, 1) := by decide +kernel
theorem dX6_wind_2 : decode cX6_wind 2 = .ok (.getfield 44, 3) := by decide +kernel
theorem dX6_wind_5 : decode cX6_wind 5 = .ok (.iconst 3, 1) := by decide +kernel
theorem dX6_wind_6 : decode cX6_wind 6 = .ok (.iadd, 1) := by decide +kernel
theorem dX6_wind_7 : decode cX6_wind 7 = .ok (.sipush 3100, 3) := by decide +kernel
theorem dX6_wind_10 : decode cX6_wind 10 = .ok (.invokestatic 58, 3) := by decide +kernel
theorem dX6_wind_13 : decode cX6_wind 13 = .ok (.iload_n 2, 1) := by decide +kernel
theorem dX6_wind_14 : decode cX6_wind 14 = .ok (.iconst 1, 1) := by decide +kernel
theorem dX6_wind_15 : decode cX6_wind 15 = .ok (.bipush 48, 2) := by decide +kernel
theorem dX6_wind_17 : decode cX6_wind 17 = .ok (.invokestatic 58, 3) := by decide +kernel
theorem dX6_wind_20 : decode cX6_wind 20 = .ok (.iload_n 3, 1) := by decide +kernel
theorem dX6_wind_21 : decode cX6_wind 21 = .ok (.bipush (-40), 2) := by decide +kernel
theorem dX6_wind_23 : decode cX6_wind 23 = .ok (.bipush 40, 2) := by decide +kernel
theorem dX6_wind_25 : decode cX6_wind 25 = .ok (.invokestatic 58, 3) := by decide +kernel
theorem dX6_wind_28 : decode cX6_wind 28 = .ok (.aload_n 0, 1) := by decide +kernel
theorem dX6_wind_29 : decode cX6_wind 29 = .ok (.getfield 10, 3) := by decide +kernel
theorem dX6_wind_32 : decode cX6_wind 32 = .ok (.getfield 77, 3) := by decide +kernel
theorem dX6_wind_35 : decode cX6_wind 35 = .ok (.iload_n 1, 1) := by decide +kernel
theorem dX6_wind_36 : decode cX6_wind 36 = .ok (.iaload, 1) := by decide +kernel
theorem dX6_wind_37 : decode cX6_wind 37 = .ok (.istore 4, 2) := by decide +kernel
theorem dX6_wind_39 : decode cX6_wind 39 = .ok (.aload_n 0, 1) := by decide +kernel
theorem dX6_wind_40 : decode cX6_wind 40 = .ok (.getfield 10, 3) := by decide +kernel
theorem dX6_wind_43 : decode cX6_wind 43 = .ok (.iload_n 1, 1) := by decide +kernel
theorem dX6_wind_44 : decode cX6_wind 44 = .ok (.iload_n 2, 1) := by decide +kernel
theorem dX6_wind_45 : decode cX6_wind 45 = .ok (.iload_n 3, 1) := by decide +kernel
theorem dX6_wind_46 : decode cX6_wind 46 = .ok (.invokevirtual 80, 3) := by decide +kernel
theorem dX6_wind_49 : decode cX6_wind 49 = .ok (.iload 4, 2) := by decide +kernel
theorem dX6_wind_51 : decode cX6_wind 51 = .ok (.ireturn, 1) := by decide +kernel
theorem dX6_depth_0 : decode cX6_depth 0 = .ok (.iload_n 1, 1) := by decide +kernel
theorem dX6_depth_1 : decode cX6_depth 1 = .ok (.iconst 0, 1) := by decide +kernel
theorem dX6_depth_2 : decode cX6_depth 2 = .ok (.sipush 3100, 3) := by decide +kernel
theorem dX6_depth_5 : decode cX6_depth 5 = .ok (.invokestatic 58, 3) := by decide +kernel
theorem dX6_depth_8 : decode cX6_depth 8 = .ok (.aload_n 0, 1) := by decide +kernel
theorem dX6_depth_9 : decode cX6_depth 9 = .ok (.getfield 10, 3) := by decide +kernel
theorem dX6_depth_12 : decode cX6_depth 12 = .ok (.iload_n 1, 1) := by decide +kernel
theorem dX6_depth_13 : decode cX6_depth 13 = .ok (.invokevirtual 83, 3) := by decide +kernel
theorem dX6_depth_16 : decode cX6_depth 16 = .ok (.ireturn, 1) := by decide +kernel
theorem dX6_berth_0 : decode cX6_berth 0 = .ok (.iload_n 1, 1) := by decide +kernel
theorem dX6_berth_1 : decode cX6_berth 1 = .ok (.bipush 6, 2) := by decide +kernel
theorem dX6_berth_3 : decode cX6_berth 3 = .ok (.invokestatic 54, 3) := by decide +kernel
theorem dX6_berth_6 : decode cX6_berth 6 = .ok (.iload_n 2, 1) := by decide +kernel
theorem dX6_berth_7 : decode cX6_berth 7 = .ok (.iconst 0, 1) := by decide +kernel
theorem dX6_berth_8 : decode cX6_berth 8 = .ok (.sipush 200, 3) := by decide +kernel
theorem dX6_berth_11 : decode cX6_berth 11 = .ok (.invokestatic 58, 3) := by decide +kernel
theorem dX6_berth_14 : decode cX6_berth 14 = .ok (.aload_n 0, 1) := by decide +kernel
theorem dX6_berth_15 : decode cX6_berth 15 = .ok (.getfield 26, 3) := by decide +kernel
theorem dX6_berth_18 : decode cX6_berth 18 = .ok (.iload_n 1, 1) := by decide +kernel
theorem dX6_berth_19 : decode cX6_berth 19 = .ok (.invokevirtual 87, 3) := by decide +kernel
theorem dX6_berth_22 : decode cX6_berth 22 = .ok (.ifCond .eq 13, 3) := by decide +kernel
theorem dX6_berth_25 : decode cX6_berth 25 = .ok (.new 66, 3) := by decide +kernel
theorem dX6_berth_28 : decode cX6_berth 28 = .ok (.dup, 1) := by decide +kernel
theorem dX6_berth_29 : decode cX6_berth 29 = .ok (.ldc 91, 2) := by decide +kernel
theorem dX6_berth_31 : decode cX6_berth 31 = .ok (.invokespecial 70, 3) := by decide +kernel
theorem dX6_berth_34 : decode cX6_berth 34 = .ok (.athrow, 1) := by decide +kernel
theorem dX6_berth_35 : decode cX6_berth 35 = .ok (.aload_n 0, 1) := by decide +kernel
theorem dX6_berth_36 : decode cX6_berth 36 = .ok (.getfield 10, 3) := by decide +kernel
theorem dX6_berth_39 : decode cX6_berth 39 = .ok (.getfield 93, 3) := by decide +kernel
theorem dX6_berth_42 : decode cX6_berth 42 = .ok (.iload_n 1, 1) := by decide +kernel
theorem dX6_berth_43 : decode cX6_berth 43 = .ok (.iaload, 1) := by decide +kernel
theorem dX6_berth_44 : decode cX6_berth 44 = .ok (.istore_n 3, 1) := by decide +kernel
theorem dX6_berth_45 : decode cX6_berth 45 = .ok (.aload_n 0, 1) := by decide +kernel
theorem dX6_berth_46 : decode cX6_berth 46 = .ok (.getfield 10, 3) := by decide +kernel
theorem dX6_berth_49 : decode cX6_berth 49 = .ok (.getfield 93, 3) := by decide +kernel
theorem dX6_berth_52 : decode cX6_berth 52 = .ok (.iload_n 1, 1) := by decide +kernel
theorem dX6_berth_53 : decode cX6_berth 53 = .ok (.iload_n 2, 1) := by decide +kernel
theorem dX6_berth_54 : decode cX6_berth 54 = .ok (.iastore, 1) := by decide +kernel
theorem dX6_berth_55 : decode cX6_berth 55 = .ok (.iload_n 3, 1) := by decide +kernel
theorem dX6_berth_56 : decode cX6_berth 56 = .ok (.ireturn, 1) := by decide +kernel
theorem dX6_ship_0 : decode cX6_ship 0 = .ok (.iload 4, 2) := by decide +kernel
theorem dX6_ship_2 : decode cX6_ship 2 = .ok (.bipush 6, 2) := by decide +kernel
theorem dX6_ship_4 : decode cX6_ship 4 = .ok (.invokestatic 54, 3) := by decide +kernel
theorem dX6_ship_7 : decode cX6_ship 7 = .ok (.iload_n 1, 1) := by decide +kernel
theorem dX6_ship_8 : decode cX6_ship 8 = .ok (.iconst 1, 1) := by decide +kernel
theorem dX6_ship_9 : decode cX6_ship 9 = .ok (.iconst 4, 1) := by decide +kernel
theorem dX6_ship_10 : decode cX6_ship 10 = .ok (.invokestatic 58, 3) := by decide +kernel
theorem dX6_ship_13 : decode cX6_ship 13 = .ok (.iload_n 2, 1) := by decide +kernel
theorem dX6_ship_14 : decode cX6_ship 14 = .ok (.bipush 10, 2) := by decide +kernel
theorem dX6_ship_16 : decode cX6_ship 16 = .ok (.sipush 150, 3) := by decide +kernel
theorem dX6_ship_19 : decode cX6_ship 19 = .ok (.invokestatic 58, 3) := by decide +kernel
theorem dX6_ship_22 : decode cX6_ship 22 = .ok (.iload_n 3, 1) := by decide +kernel
theorem dX6_ship_23 : decode cX6_ship 23 = .ok (.iconst 0, 1) := by decide +kernel
theorem dX6_ship_24 : decode cX6_ship 24 = .ok (.iconst 3, 1) := by decide +kernel
theorem dX6_ship_25 : decode cX6_ship 25 = .ok (.invokestatic 58, 3) := by decide +kernel
theorem dX6_ship_28 : decode cX6_ship 28 = .ok (.aload_n 0, 1) := by decide +kernel
theorem dX6_ship_29 : decode cX6_ship 29 = .ok (.getfield 33, 3) := by decide +kernel
theorem dX6_ship_32 : decode cX6_ship 32 = .ok (.invokevirtual 96, 3) := by decide +kernel
theorem dX6_ship_35 : decode cX6_ship 35 = .ok (.istore 5, 2) := by decide +kernel
theorem dX6_ship_37 : decode cX6_ship 37 = .ok (.iload 5, 2) := by decide +kernel
theorem dX6_ship_39 : decode cX6_ship 39 = .ok (.bipush 30, 2) := by decide +kernel
theorem dX6_ship_41 : decode cX6_ship 41 = .ok (.if_icmp .lt 13, 3) := by decide +kernel
theorem dX6_ship_44 : decode cX6_ship 44 = .ok (.new 66, 3) := by decide +kernel
theorem dX6_ship_47 : decode cX6_ship 47 = .ok (.dup, 1) := by decide +kernel
theorem dX6_ship_48 : decode cX6_ship 48 = .ok (.ldc 99, 2) := by decide +kernel
theorem dX6_ship_50 : decode cX6_ship 50 = .ok (.invokespecial 70, 3) := by decide +kernel
theorem dX6_ship_53 : decode cX6_ship 53 = .ok (.athrow, 1) := by decide +kernel
theorem dX6_ship_54 : decode cX6_ship 54 = .ok (.aload_n 0, 1) := by decide +kernel
theorem dX6_ship_55 : decode cX6_ship 55 = .ok (.getfield 33, 3) := by decide +kernel
theorem dX6_ship_58 : decode cX6_ship 58 = .ok (.new 101, 3) := by decide +kernel
theorem dX6_ship_61 : decode cX6_ship 61 = .ok (.dup, 1) := by decide +kernel
theorem dX6_ship_62 : decode cX6_ship 62 = .ok (.iload 5, 2) := by decide +kernel
theorem dX6_ship_64 : decode cX6_ship 64 = .ok (.iload_n 1, 1) := by decide +kernel
theorem dX6_ship_65 : decode cX6_ship 65 = .ok (.iload_n 2, 1) := by decide +kernel
theorem dX6_ship_66 : decode cX6_ship 66 = .ok (.iload_n 3, 1) := by decide +kernel
theorem dX6_ship_67 : decode cX6_ship 67 = .ok (.iload 4, 2) := by decide +kernel
theorem dX6_ship_69 : decode cX6_ship 69 = .ok (.invokespecial 103, 3) := by decide +kernel
theorem dX6_ship_72 : decode cX6_ship 72 = .ok (.invokevirtual 106, 3) := by decide +kernel
theorem dX6_ship_75 : decode cX6_ship 75 = .ok (.pop, 1) := by decide +kernel
theorem dX6_ship_76 : decode cX6_ship 76 = .ok (.iload 5, 2) := by decide +kernel
theorem dX6_ship_78 : decode cX6_ship 78 = .ok (.ireturn, 1) := by decide +kernel
theorem dX6_order_0 : decode cX6_order 0 = .ok (.aload_n 0, 1) := by decide +kernel
theorem dX6_order_1 : decode cX6_order 1 = .ok (.iload_n 1, 1) := by decide +kernel
theorem dX6_order_2 : decode cX6_order 2 = .ok (.invokevirtual 110, 3) := by decide +kernel
theorem dX6_order_5 : decode cX6_order 5 = .ok (.astore_n 3, 1) := by decide +kernel
theorem dX6_order_6 : decode cX6_order 6 = .ok (.iload_n 2, 1) := by decide +kernel
theorem dX6_order_7 : decode cX6_order 7 = .ok (.aload_n 0, 1) := by decide +kernel
theorem dX6_order_8 : decode cX6_order 8 = .ok (.getfield 44, 3) := by decide +kernel
theorem dX6_order_11 : decode cX6_order 11 = .ok (.iconst 1, 1) := by decide +kernel
theorem dX6_order_12 : decode cX6_order 12 = .ok (.iadd, 1) := by decide +kernel
theorem dX6_order_13 : decode cX6_order 13 = .ok (.sipush 3000, 3) := by decide +kernel
theorem dX6_order_16 : decode cX6_order 16 = .ok (.invokestatic 58, 3) := by decide +kernel
theorem dX6_order_19 : decode cX6_order 19 = .ok (.aload_n 3, 1) := by decide +kernel
theorem dX6_order_20 : decode cX6_order 20 = .ok (.invokevirtual 114, 3) := by decide +kernel
theorem dX6_order_23 : decode cX6_order 23 = .ok (.ifCond .ne 13, 3) := by decide +kernel
theorem dX6_order_26 : decode cX6_order 26 = .ok (.new 66, 3) := by decide +kernel
theorem dX6_order_29 : decode cX6_order 29 = .ok (.dup, 1) := by decide +kernel
theorem dX6_order_30 : decode cX6_order 30 = .ok (.ldc 118, 2) := by decide +kernel
theorem dX6_order_32 : decode cX6_order 32 = .ok (.invokespecial 70, 3) := by decide +kernel
theorem dX6_order_35 : decode cX6_order 35 = .ok (.athrow, 1) := by decide +kernel
theorem dX6_order_36 : decode cX6_order 36 = .ok (.aload_n 3, 1) := by decide +kernel
theorem dX6_order_37 : decode cX6_order 37 = .ok (.invokevirtual 120, 3) := by decide +kernel
theorem dX6_order_40 : decode cX6_order 40 = .ok (.ifCond .eq 13, 3) := by decide +kernel
theorem dX6_order_43 : decode cX6_order 43 = .ok (.new 66, 3) := by decide +kernel
theorem dX6_order_46 : decode cX6_order 46 = .ok (.dup, 1) := by decide +kernel
theorem dX6_order_47 : decode cX6_order 47 = .ok (.ldc 123, 2) := by decide +kernel
theorem dX6_order_49 : decode cX6_order 49 = .ok (.invokespecial 70, 3) := by decide +kernel
theorem dX6_order_52 : decode cX6_order 52 = .ok (.athrow, 1) := by decide +kernel
theorem dX6_order_53 : decode cX6_order 53 = .ok (.aload_n 3, 1) := by decide +kernel
theorem dX6_order_54 : decode cX6_order 54 = .ok (.iload_n 2, 1) := by decide +kernel
theorem dX6_order_55 : decode cX6_order 55 = .ok (.putfield 125, 3) := by decide +kernel
theorem dX6_order_58 : decode cX6_order 58 = .ok (.aload_n 0, 1) := by decide +kernel
theorem dX6_order_59 : decode cX6_order 59 = .ok (.getfield 40, 3) := by decide +kernel
theorem dX6_order_62 : decode cX6_order 62 = .ok (.aload_n 3, 1) := by decide +kernel
theorem dX6_order_63 : decode cX6_order 63 = .ok (.invokevirtual 128, 3) := by decide +kernel
theorem dX6_order_66 : decode cX6_order 66 = .ok (.aload_n 0, 1) := by decide +kernel
theorem dX6_order_67 : decode cX6_order 67 = .ok (.getfield 40, 3) := by decide +kernel
theorem dX6_order_70 : decode cX6_order 70 = .ok (.invokevirtual 132, 3) := by decide +kernel
theorem dX6_order_73 : decode cX6_order 73 = .ok (.ireturn, 1) := by decide +kernel
theorem dX6_cancel_0 : decode cX6_cancel 0 = .ok (.aload_n 0, 1) := by decide +kernel
theorem dX6_cancel_1 : decode cX6_cancel 1 = .ok (.iload_n 1, 1) := by decide +kernel
theorem dX6_cancel_2 : decode cX6_cancel 2 = .ok (.invokevirtual 110, 3) := by decide +kernel
theorem dX6_cancel_5 : decode cX6_cancel 5 = .ok (.astore_n 2, 1) := by decide +kernel
theorem dX6_cancel_6 : decode cX6_cancel 6 = .ok (.aload_n 2, 1) := by decide +kernel
theorem dX6_cancel_7 : decode cX6_cancel 7 = .ok (.invokevirtual 120, 3) := by decide +kernel
theorem dX6_cancel_10 : decode cX6_cancel 10 = .ok (.ifCond .ne 13, 3) := by decide +kernel
theorem dX6_cancel_13 : decode cX6_cancel 13 = .ok (.new 66, 3) := by decide +kernel
theorem dX6_cancel_16 : decode cX6_cancel 16 = .ok (.dup, 1) := by decide +kernel
theorem dX6_cancel_17 : decode cX6_cancel 17 = .ok (.ldc 133, 2) := by decide +kernel
theorem dX6_cancel_19 : decode cX6_cancel 19 = .ok (.invokespecial 70, 3) := by decide +kernel
theorem dX6_cancel_22 : decode cX6_cancel 22 = .ok (.athrow, 1) := by decide +kernel
theorem dX6_cancel_23 : decode cX6_cancel 23 = .ok (.aload_n 2, 1) := by decide +kernel
theorem dX6_cancel_24 : decode cX6_cancel 24 = .ok (.getfield 125, 3) := by decide +kernel
theorem dX6_cancel_27 : decode cX6_cancel 27 = .ok (.istore_n 3, 1) := by decide +kernel
theorem dX6_cancel_28 : decode cX6_cancel 28 = .ok (.aload_n 0, 1) := by decide +kernel
theorem dX6_cancel_29 : decode cX6_cancel 29 = .ok (.getfield 40, 3) := by decide +kernel
theorem dX6_cancel_32 : decode cX6_cancel 32 = .ok (.aload_n 2, 1) := by decide +kernel
theorem dX6_cancel_33 : decode cX6_cancel 33 = .ok (.invokevirtual 135, 3) := by decide +kernel
theorem dX6_cancel_36 : decode cX6_cancel 36 = .ok (.iload_n 3, 1) := by decide +kernel
theorem dX6_cancel_37 : decode cX6_cancel 37 = .ok (.ireturn, 1) := by decide +kernel
theorem dX6_hasWater_0 : decode cX6_hasWater 0 = .ok (.aload_n 0, 1) := by decide +kernel
theorem dX6_hasWater_1 : decode cX6_hasWater 1 = .ok (.iload_n 1, 1) := by decide +kernel
theorem dX6_hasWater_2 : decode cX6_hasWater 2 = .ok (.invokevirtual 110, 3) := by decide +kernel
theorem dX6_hasWater_5 : decode cX6_hasWater 5 = .ok (.astore_n 3, 1) := by decide +kernel
theorem dX6_hasWater_6 : decode cX6_hasWater 6 = .ok (.iload_n 2, 1) := by decide +kernel
theorem dX6_hasWater_7 : decode cX6_hasWater 7 = .ok (.iconst 0, 1) := by decide +kernel
theorem dX6_hasWater_8 : decode cX6_hasWater 8 = .ok (.sipush 3000, 3) := by decide +kernel
theorem dX6_hasWater_11 : decode cX6_hasWater 11 = .ok (.invokestatic 58, 3) := by decide +kernel
theorem dX6_hasWater_14 : decode cX6_hasWater 14 = .ok (.aload_n 3, 1) := by decide +kernel
theorem dX6_hasWater_15 : decode cX6_hasWater 15 = .ok (.invokevirtual 114, 3) := by decide +kernel
theorem dX6_hasWater_18 : decode cX6_hasWater 18 = .ok (.ifCond .eq 32, 3) := by decide +kernel
theorem dX6_hasWater_21 : decode cX6_hasWater 21 = .ok (.aload_n 0, 1) := by decide +kernel
theorem dX6_hasWater_22 : decode cX6_hasWater 22 = .ok (.getfield 10, 3) := by decide +kernel
theorem dX6_hasWater_25 : decode cX6_hasWater 25 = .ok (.aload_n 3, 1) := by decide +kernel
theorem dX6_hasWater_26 : decode cX6_hasWater 26 = .ok (.aload_n 3, 1) := by decide +kernel
theorem dX6_hasWater_27 : decode cX6_hasWater 27 = .ok (.getfield 138, 3) := by decide +kernel
theorem dX6_hasWater_30 : decode cX6_hasWater 30 = .ok (.iconst 2, 1) := by decide +kernel
theorem dX6_hasWater_31 : decode cX6_hasWater 31 = .ok (.if_icmp .ne 7, 3) := by decide +kernel
theorem dX6_hasWater_34 : decode cX6_hasWater 34 = .ok (.iconst 1, 1) := by decide +kernel
theorem dX6_hasWater_35 : decode cX6_hasWater 35 = .ok (.goto 4, 3) := by decide +kernel
theorem dX6_hasWater_38 : decode cX6_hasWater 38 = .ok (.iconst 0, 1) := by decide +kernel
theorem dX6_hasWater_39 : decode cX6_hasWater 39 = .ok (.iload_n 2, 1) := by decide +kernel
theorem dX6_hasWater_40 : decode cX6_hasWater 40 = .ok (.invokevirtual 141, 3) := by decide +kernel
theorem dX6_hasWater_43 : decode cX6_hasWater 43 = .ok (.ifCond .eq 7, 3) := by decide +kernel
theorem dX6_hasWater_46 : decode cX6_hasWater 46 = .ok (.iconst 1, 1) := by decide +kernel
theorem dX6_hasWater_47 : decode cX6_hasWater 47 = .ok (.goto 4, 3) := by decide +kernel
theorem dX6_hasWater_50 : decode cX6_hasWater 50 = .ok (.iconst 0, 1) := by decide +kernel
theorem dX6_hasWater_51 : decode cX6_hasWater 51 = .ok (.ireturn, 1) := by decide +kernel
theorem dX6_state_0 : decode cX6_state 0 = .ok (.aload_n 0, 1) := by decide +kernel
theorem dX6_state_1 : decode cX6_state 1 = .ok (.iload_n 1, 1) := by decide +kernel
theorem dX6_state_2 : decode cX6_state 2 = .ok (.invokevirtual 110, 3) := by decide +kernel
theorem dX6_state_5 : decode cX6_state 5 = .ok (.getfield 138, 3) := by decide +kernel
theorem dX6_state_8 : decode cX6_state 8 = .ok (.ireturn, 1) := by decide +kernel
theorem dX6_queue_0 : decode cX6_queue 0 = .ok (.aload_n 0, 1) := by decide +kernel
theorem dX6_queue_1 : decode cX6_queue 1 = .ok (.getfield 40, 3) := by decide +kernel
theorem dX6_queue_4 : decode cX6_queue 4 = .ok (.aload_n 0, 1) := by decide +kernel
theorem dX6_queue_5 : decode cX6_queue 5 = .ok (.iload_n 1, 1) := by decide +kernel
theorem dX6_queue_6 : decode cX6_queue 6 = .ok (.invokevirtual 110, 3) := by decide +kernel
theorem dX6_queue_9 : decode cX6_queue 9 = .ok (.invokevirtual 145, 3) := by decide +kernel
theorem dX6_queue_12 : decode cX6_queue 12 = .ok (.ireturn, 1) := by decide +kernel
theorem dX6_pass_0 : decode cX6_pass 0 = .ok (.iload_n 1, 1) := by decide +kernel
theorem dX6_pass_1 : decode cX6_pass 1 = .ok (.iconst 1, 1) := by decide +kernel
theorem dX6_pass_2 : decode cX6_pass 2 = .ok (.bipush 100, 2) := by decide +kernel
theorem dX6_pass_4 : decode cX6_pass 4 = .ok (.invokestatic 58, 3) := by decide +kernel
theorem dX6_pass_7 : decode cX6_pass 7 = .ok (.aload_n 0, 1) := by decide +kernel
theorem dX6_pass_8 : decode cX6_pass 8 = .ok (.getfield 44, 3) := by decide +kernel
theorem dX6_pass_11 : decode cX6_pass 11 = .ok (.iload_n 1, 1) := by decide +kernel
theorem dX6_pass_12 : decode cX6_pass 12 = .ok (.iadd, 1) := by decide +kernel
theorem dX6_pass_13 : decode cX6_pass 13 = .ok (.sipush 3000, 3) := by decide +kernel
theorem dX6_pass_16 : decode cX6_pass 16 = .ok (.if_icmp .le 13, 3) := by decide +kernel
theorem dX6_pass_19 : decode cX6_pass 19 = .ok (.new 66, 3) := by decide +kernel
theorem dX6_pass_22 : decode cX6_pass 22 = .ok (.dup, 1) := by decide +kernel
theorem dX6_pass_23 : decode cX6_pass 23 = .ok (.ldc 149, 2) := by decide +kernel
theorem dX6_pass_25 : decode cX6_pass 25 = .ok (.invokespecial 70, 3) := by decide +kernel
theorem dX6_pass_28 : decode cX6_pass 28 = .ok (.athrow, 1) := by decide +kernel
theorem dX6_pass_29 : decode cX6_pass 29 = .ok (.aload_n 0, 1) := by decide +kernel
theorem dX6_pass_30 : decode cX6_pass 30 = .ok (.getfield 26, 3) := by decide +kernel
theorem dX6_pass_33 : decode cX6_pass 33 = .ok (.invokevirtual 62, 3) := by decide +kernel
theorem dX6_pass_36 : decode cX6_pass 36 = .ok (.istore_n 2, 1) := by decide +kernel
theorem dX6_pass_37 : decode cX6_pass 37 = .ok (.iconst 0, 1) := by decide +kernel
theorem dX6_pass_38 : decode cX6_pass 38 = .ok (.istore_n 3, 1) := by decide +kernel
theorem dX6_pass_39 : decode cX6_pass 39 = .ok (.iload_n 3, 1) := by decide +kernel
theorem dX6_pass_40 : decode cX6_pass 40 = .ok (.iload_n 1, 1) := by decide +kernel
theorem dX6_pass_41 : decode cX6_pass 41 = .ok (.if_icmp .ge 31, 3) := by decide +kernel
theorem dX6_pass_44 : decode cX6_pass 44 = .ok (.aload_n 0, 1) := by decide +kernel
theorem dX6_pass_45 : decode cX6_pass 45 = .ok (.dup, 1) := by decide +kernel
theorem dX6_pass_46 : decode cX6_pass 46 = .ok (.getfield 44, 3) := by decide +kernel
theorem dX6_pass_49 : decode cX6_pass 49 = .ok (.iconst 1, 1) := by decide +kernel
theorem dX6_pass_50 : decode cX6_pass 50 = .ok (.iadd, 1) := by decide +kernel
theorem dX6_pass_51 : decode cX6_pass 51 = .ok (.putfield 44, 3) := by decide +kernel
theorem dX6_pass_54 : decode cX6_pass 54 = .ok (.aload_n 0, 1) := by decide +kernel
theorem dX6_pass_55 : decode cX6_pass 55 = .ok (.invokevirtual 151, 3) := by decide +kernel
theorem dX6_pass_58 : decode cX6_pass 58 = .ok (.aload_n 0, 1) := by decide +kernel
theorem dX6_pass_59 : decode cX6_pass 59 = .ok (.invokevirtual 154, 3) := by decide +kernel
theorem dX6_pass_62 : decode cX6_pass 62 = .ok (.aload_n 0, 1) := by decide +kernel
theorem dX6_pass_63 : decode cX6_pass 63 = .ok (.invokevirtual 157, 3) := by decide +kernel
theorem dX6_pass_66 : decode cX6_pass 66 = .ok (.iinc 3 1, 3) := by decide +kernel
theorem dX6_pass_69 : decode cX6_pass 69 = .ok (.goto (-30), 3) := by decide +kernel
theorem dX6_pass_72 : decode cX6_pass 72 = .ok (.aload_n 0, 1) := by decide +kernel
theorem dX6_pass_73 : decode cX6_pass 73 = .ok (.getfield 26, 3) := by decide +kernel
theorem dX6_pass_76 : decode cX6_pass 76 = .ok (.invokevirtual 62, 3) := by decide +kernel
theorem dX6_pass_79 : decode cX6_pass 79 = .ok (.iload_n 2, 1) := by decide +kernel
theorem dX6_pass_80 : decode cX6_pass 80 = .ok (.isub, 1) := by decide +kernel
theorem dX6_pass_81 : decode cX6_pass 81 = .ok (.ireturn, 1) := by decide +kernel
theorem dX6_swap_0 : decode cX6_swap 0 = .ok (.iload_n 1, 1) := by decide +kernel
theorem dX6_swap_1 : decode cX6_swap 1 = .ok (.bipush 6, 2) := by decide +kernel
theorem dX6_swap_3 : decode cX6_swap 3 = .ok (.invokestatic 54, 3) := by decide +kernel
theorem dX6_swap_6 : decode cX6_swap 6 = .ok (.iload_n 2, 1) := by decide +kernel
theorem dX6_swap_7 : decode cX6_swap 7 = .ok (.bipush 6, 2) := by decide +kernel
theorem dX6_swap_9 : decode cX6_swap 9 = .ok (.invokestatic 54, 3) := by decide +kernel
theorem dX6_swap_12 : decode cX6_swap 12 = .ok (.iload_n 1, 1) := by decide +kernel
theorem dX6_swap_13 : decode cX6_swap 13 = .ok (.iload_n 2, 1) := by decide +kernel
theorem dX6_swap_14 : decode cX6_swap 14 = .ok (.if_icmp .ne 13, 3) := by decide +kernel
theorem dX6_swap_17 : decode cX6_swap 17 = .ok (.new 160, 3) := by decide +kernel
theorem dX6_swap_20 : decode cX6_swap 20 = .ok (.dup, 1) := by decide +kernel
theorem dX6_swap_21 : decode cX6_swap 21 = .ok (.ldc 162, 2) := by decide +kernel
theorem dX6_swap_23 : decode cX6_swap 23 = .ok (.invokespecial 164, 3) := by decide +kernel
theorem dX6_swap_26 : decode cX6_swap 26 = .ok (.athrow, 1) := by decide +kernel
theorem dX6_swap_27 : decode cX6_swap 27 = .ok (.aload_n 0, 1) := by decide +kernel
theorem dX6_swap_28 : decode cX6_swap 28 = .ok (.getfield 19, 3) := by decide +kernel
theorem dX6_swap_31 : decode cX6_swap 31 = .ok (.iload_n 1, 1) := by decide +kernel
theorem dX6_swap_32 : decode cX6_swap 32 = .ok (.iload_n 2, 1) := by decide +kernel
theorem dX6_swap_33 : decode cX6_swap 33 = .ok (.invokevirtual 165, 3) := by decide +kernel
theorem dX6_swap_36 : decode cX6_swap 36 = .ok (.ireturn, 1) := by decide +kernel
theorem dX6_rota_0 : decode cX6_rota 0 = .ok (.iload_n 1, 1) := by decide +kernel
theorem dX6_rota_1 : decode cX6_rota 1 = .ok (.bipush 6, 2) := by decide +kernel
theorem dX6_rota_3 : decode cX6_rota 3 = .ok (.invokestatic 54, 3) := by decide +kernel
theorem dX6_rota_6 : decode cX6_rota 6 = .ok (.aload_n 0, 1) := by decide +kernel
theorem dX6_rota_7 : decode cX6_rota 7 = .ok (.getfield 19, 3) := by decide +kernel
theorem dX6_rota_10 : decode cX6_rota 10 = .ok (.getfield 169, 3) := by decide +kernel
theorem dX6_rota_13 : decode cX6_rota 13 = .ok (.iload_n 1, 1) := by decide +kernel
theorem dX6_rota_14 : decode cX6_rota 14 = .ok (.iaload, 1) := by decide +kernel
theorem dX6_rota_15 : decode cX6_rota 15 = .ok (.ireturn, 1) := by decide +kernel
theorem dX6_isReady_0 : decode cX6_isReady 0 = .ok (.iload_n 1, 1) := by decide +kernel
theorem dX6_isReady_1 : decode cX6_isReady 1 = .ok (.bipush 6, 2) := by decide +kernel
theorem dX6_isReady_3 : decode cX6_isReady 3 = .ok (.invokestatic 54, 3) := by decide +kernel
theorem dX6_isReady_6 : decode cX6_isReady 6 = .ok (.aload_n 0, 1) := by decide +kernel
theorem dX6_isReady_7 : decode cX6_isReady 7 = .ok (.getfield 26, 3) := by decide +kernel
theorem dX6_isReady_10 : decode cX6_isReady 10 = .ok (.iload_n 1, 1) := by decide +kernel
theorem dX6_isReady_11 : decode cX6_isReady 11 = .ok (.aload_n 0, 1) := by decide +kernel
theorem dX6_isReady_12 : decode cX6_isReady 12 = .ok (.getfield 44, 3) := by decide +kernel
theorem dX6_isReady_15 : decode cX6_isReady 15 = .ok (.aload_n 0, 1) := by decide +kernel
theorem dX6_isReady_16 : decode cX6_isReady 16 = .ok (.getfield 26, 3) := by decide +kernel
theorem dX6_isReady_19 : decode cX6_isReady 19 = .ok (.invokevirtual 62, 3) := by decide +kernel
theorem dX6_isReady_22 : decode cX6_isReady 22 = .ok (.invokevirtual 172, 3) := by decide +kernel
theorem dX6_isReady_25 : decode cX6_isReady 25 = .ok (.ireturn, 1) := by decide +kernel
theorem dX6_tugs_0 : decode cX6_tugs 0 = .ok (.aload_n 0, 1) := by decide +kernel
theorem dX6_tugs_1 : decode cX6_tugs 1 = .ok (.getfield 26, 3) := by decide +kernel
theorem dX6_tugs_4 : decode cX6_tugs 4 = .ok (.aload_n 0, 1) := by decide +kernel
theorem dX6_tugs_5 : decode cX6_tugs 5 = .ok (.getfield 44, 3) := by decide +kernel
theorem dX6_tugs_8 : decode cX6_tugs 8 = .ok (.aload_n 0, 1) := by decide +kernel
theorem dX6_tugs_9 : decode cX6_tugs 9 = .ok (.getfield 26, 3) := by decide +kernel
theorem dX6_tugs_12 : decode cX6_tugs 12 = .ok (.invokevirtual 62, 3) := by decide +kernel
theorem dX6_tugs_15 : decode cX6_tugs 15 = .ok (.invokevirtual 176, 3) := by decide +kernel
theorem dX6_tugs_18 : decode cX6_tugs 18 = .ok (.ireturn, 1) := by decide +kernel
theorem dX6_moves_0 : decode cX6_moves 0 = .ok (.aload_n 0, 1) := by decide +kernel
theorem dX6_moves_1 : decode cX6_moves 1 = .ok (.getfield 26, 3) := by decide +kernel
theorem dX6_moves_4 : decode cX6_moves 4 = .ok (.invokevirtual 62, 3) := by decide +kernel
theorem dX6_moves_7 : decode cX6_moves 7 = .ok (.ireturn, 1) := by decide +kernel
theorem dX6_move_0 : decode cX6_move 0 = .ok (.iload_n 1, 1) := by decide +kernel
theorem dX6_move_1 : decode cX6_move 1 = .ok (.aload_n 0, 1) := by decide +kernel
theorem dX6_move_2 : decode cX6_move 2 = .ok (.getfield 26, 3) := by decide +kernel
theorem dX6_move_5 : decode cX6_move 5 = .ok (.invokevirtual 62, 3) := by decide +kernel
theorem dX6_move_8 : decode cX6_move 8 = .ok (.invokestatic 54, 3) := by decide +kernel
theorem dX6_move_11 : decode cX6_move 11 = .ok (.aload_n 0, 1) := by decide +kernel
theorem dX6_move_12 : decode cX6_move 12 = .ok (.getfield 26, 3) := by decide +kernel
theorem dX6_move_15 : decode cX6_move 15 = .ok (.iload_n 1, 1) := by decide +kernel
theorem dX6_move_16 : decode cX6_move 16 = .ok (.invokevirtual 179, 3) := by decide +kernel
theorem dX6_move_19 : decode cX6_move 19 = .ok (.astore_n 2, 1) := by decide +kernel
theorem dX6_move_20 : decode cX6_move 20 = .ok (.sipush 10000, 3) := by decide +kernel
theorem dX6_move_23 : decode cX6_move 23 = .ok (.aload_n 2, 1) := by decide +kernel
theorem dX6_move_24 : decode cX6_move 24 = .ok (.getfield 183, 3) := by decide +kernel
theorem dX6_move_27 : decode cX6_move 27 = .ok (.imul, 1) := by decide +kernel
theorem dX6_move_28 : decode cX6_move 28 = .ok (.bipush 100, 2) := by decide +kernel
theorem dX6_move_30 : decode cX6_move 30 = .ok (.aload_n 2, 1) := by decide +kernel
theorem dX6_move_31 : decode cX6_move 31 = .ok (.getfield 188, 3) := by decide +kernel
theorem dX6_move_34 : decode cX6_move 34 = .ok (.getfield 192, 3) := by decide +kernel
theorem dX6_move_37 : decode cX6_move 37 = .ok (.imul, 1) := by decide +kernel
theorem dX6_move_38 : decode cX6_move 38 = .ok (.iadd, 1) := by decide +kernel
theorem dX6_move_39 : decode cX6_move 39 = .ok (.bipush 10, 2) := by decide +kernel
theorem dX6_move_41 : decode cX6_move 41 = .ok (.aload_n 2, 1) := by decide +kernel
theorem dX6_move_42 : decode cX6_move 42 = .ok (.getfield 195, 3) := by decide +kernel
theorem dX6_move_45 : decode cX6_move 45 = .ok (.imul, 1) := by decide +kernel
theorem dX6_move_46 : decode cX6_move 46 = .ok (.iadd, 1) := by decide +kernel
theorem dX6_move_47 : decode cX6_move 47 = .ok (.aload_n 2, 1) := by decide +kernel
theorem dX6_move_48 : decode cX6_move 48 = .ok (.getfield 198, 3) := by decide +kernel
theorem dX6_move_51 : decode cX6_move 51 = .ok (.ifCond .eq 7, 3) := by decide +kernel
theorem dX6_move_54 : decode cX6_move 54 = .ok (.iconst 1, 1) := by decide +kernel
theorem dX6_move_55 : decode cX6_move 55 = .ok (.goto 4, 3) := by decide +kernel
theorem dX6_move_58 : decode cX6_move 58 = .ok (.iconst 0, 1) := by decide +kernel
theorem dX6_move_59 : decode cX6_move 59 = .ok (.iadd, 1) := by decide +kernel
theorem dX6_move_60 : decode cX6_move 60 = .ok (.ireturn, 1) := by decide +kernel
theorem dX6_isSound_0 : decode cX6_isSound 0 = .ok (.iload_n 1, 1) := by decide +kernel
theorem dX6_isSound_1 : decode cX6_isSound 1 = .ok (.aload_n 0, 1) := by decide +kernel
theorem dX6_isSound_2 : decode cX6_isSound 2 = .ok (.getfield 26, 3) := by decide +kernel
theorem dX6_isSound_5 : decode cX6_isSound 5 = .ok (.invokevirtual 62, 3) := by decide +kernel
theorem dX6_isSound_8 : decode cX6_isSound 8 = .ok (.invokestatic 54, 3) := by decide +kernel
theorem dX6_isSound_11 : decode cX6_isSound 11 = .ok (.aload_n 0, 1) := by decide +kernel
theorem dX6_isSound_12 : decode cX6_isSound 12 = .ok (.getfield 26, 3) := by decide +kernel
theorem dX6_isSound_15 : decode cX6_isSound 15 = .ok (.iload_n 1, 1) := by decide +kernel
theorem dX6_isSound_16 : decode cX6_isSound 16 = .ok (.invokevirtual 179, 3) := by decide +kernel
theorem dX6_isSound_19 : decode cX6_isSound 19 = .ok (.astore_n 2, 1) := by decide +kernel
theorem dX6_isSound_20 : decode cX6_isSound 20 = .ok (.aload_n 0, 1) := by decide +kernel
theorem dX6_isSound_21 : decode cX6_isSound 21 = .ok (.getfield 10, 3) := by decide +kernel
theorem dX6_isSound_24 : decode cX6_isSound 24 = .ok (.aload_n 2, 1) := by decide +kernel
theorem dX6_isSound_25 : decode cX6_isSound 25 = .ok (.getfield 188, 3) := by decide +kernel
theorem dX6_isSound_28 : decode cX6_isSound 28 = .ok (.aload_n 2, 1) := by decide +kernel
theorem dX6_isSound_29 : decode cX6_isSound 29 = .ok (.getfield 198, 3) := by decide +kernel
theorem dX6_isSound_32 : decode cX6_isSound 32 = .ok (.aload_n 2, 1) := by decide +kernel
theorem dX6_isSound_33 : decode cX6_isSound 33 = .ok (.getfield 183, 3) := by decide +kernel
theorem dX6_isSound_36 : decode cX6_isSound 36 = .ok (.invokevirtual 141, 3) := by decide +kernel
theorem dX6_isSound_39 : decode cX6_isSound 39 = .ok (.ifCond .eq 77, 3) := by decide +kernel
theorem dX6_isSound_42 : decode cX6_isSound 42 = .ok (.aload_n 2, 1) := by decide +kernel
theorem dX6_isSound_43 : decode cX6_isSound 43 = .ok (.getfield 198, 3) := by decide +kernel
theorem dX6_isSound_46 : decode cX6_isSound 46 = .ok (.ifCond .ne 25, 3) := by decide +kernel
theorem dX6_isSound_49 : decode cX6_isSound 49 = .ok (.aload_n 0, 1) := by decide +kernel
theorem dX6_isSound_50 : decode cX6_isSound 50 = .ok (.getfield 26, 3) := by decide +kernel
theorem dX6_isSound_53 : decode cX6_isSound 53 = .ok (.aload_n 2, 1) := by decide +kernel
theorem dX6_isSound_54 : decode cX6_isSound 54 = .ok (.getfield 188, 3) := by decide +kernel
theorem dX6_isSound_57 : decode cX6_isSound 57 = .ok (.getfield 202, 3) := by decide +kernel
theorem dX6_isSound_60 : decode cX6_isSound 60 = .ok (.aload_n 2, 1) := by decide +kernel
theorem dX6_isSound_61 : decode cX6_isSound 61 = .ok (.getfield 183, 3) := by decide +kernel
theorem dX6_isSound_64 : decode cX6_isSound 64 = .ok (.iload_n 1, 1) := by decide +kernel
theorem dX6_isSound_65 : decode cX6_isSound 65 = .ok (.invokevirtual 205, 3) := by decide +kernel
theorem dX6_isSound_68 : decode cX6_isSound 68 = .ok (.ifCond .eq 48, 3) := by decide +kernel
theorem dX6_isSound_71 : decode cX6_isSound 71 = .ok (.aload_n 0, 1) := by decide +kernel
theorem dX6_isSound_72 : decode cX6_isSound 72 = .ok (.getfield 26, 3) := by decide +kernel
theorem dX6_isSound_75 : decode cX6_isSound 75 = .ok (.aload_n 2, 1) := by decide +kernel
theorem dX6_isSound_76 : decode cX6_isSound 76 = .ok (.getfield 195, 3) := by decide +kernel
theorem dX6_isSound_79 : decode cX6_isSound 79 = .ok (.aload_n 2, 1) := by decide +kernel
theorem dX6_isSound_80 : decode cX6_isSound 80 = .ok (.getfield 183, 3) := by decide +kernel
theorem dX6_isSound_83 : decode cX6_isSound 83 = .ok (.iload_n 1, 1) := by decide +kernel
theorem dX6_isSound_84 : decode cX6_isSound 84 = .ok (.invokevirtual 172, 3) := by decide +kernel
theorem dX6_isSound_87 : decode cX6_isSound 87 = .ok (.ifCond .eq 29, 3) := by decide +kernel
theorem dX6_isSound_90 : decode cX6_isSound 90 = .ok (.aload_n 2, 1) := by decide +kernel
theorem dX6_isSound_91 : decode cX6_isSound 91 = .ok (.getfield 208, 3) := by decide +kernel
theorem dX6_isSound_94 : decode cX6_isSound 94 = .ok (.aload_n 0, 1) := by decide +kernel
theorem dX6_isSound_95 : decode cX6_isSound 95 = .ok (.getfield 26, 3) := by decide +kernel
theorem dX6_isSound_98 : decode cX6_isSound 98 = .ok (.aload_n 2, 1) := by decide +kernel
theorem dX6_isSound_99 : decode cX6_isSound 99 = .ok (.getfield 183, 3) := by decide +kernel
theorem dX6_isSound_102 : decode cX6_isSound 102 = .ok (.iload_n 1, 1) := by decide +kernel
theorem dX6_isSound_103 : decode cX6_isSound 103 = .ok (.invokevirtual 176, 3) := by decide +kernel
theorem dX6_isSound_106 : decode cX6_isSound 106 = .ok (.iconst (-1), 1) := by decide +kernel
theorem dX6_isSound_107 : decode cX6_isSound 107 = .ok (.ixor, 1) := by decide +kernel
theorem dX6_isSound_108 : decode cX6_isSound 108 = .ok (.iand, 1) := by decide +kernel
theorem dX6_isSound_109 : decode cX6_isSound 109 = .ok (.ifCond .ne 7, 3) := by decide +kernel
theorem dX6_isSound_112 : decode cX6_isSound 112 = .ok (.iconst 1, 1) := by decide +kernel
theorem dX6_isSound_113 : decode cX6_isSound 113 = .ok (.goto 4, 3) := by decide +kernel
theorem dX6_isSound_116 : decode cX6_isSound 116 = .ok (.iconst 0, 1) := by decide +kernel
theorem dX6_isSound_117 : decode cX6_isSound 117 = .ok (.ireturn, 1) := by decide +kernel
theorem dX6_paid_0 : decode cX6_paid 0 = .ok (.aload_n 0, 1) := by decide +kernel
theorem dX6_paid_1 : decode cX6_paid 1 = .ok (.iload_n 1, 1) := by decide +kernel
theorem dX6_paid_2 : decode cX6_paid 2 = .ok (.invokevirtual 110, 3) := by decide +kernel
theorem dX6_paid_5 : decode cX6_paid 5 = .ok (.getfield 211, 3) := by decide +kernel
theorem dX6_paid_8 : decode cX6_paid 8 = .ok (.ireturn, 1) := by decide +kernel
theorem dX6_earned_0 : decode cX6_earned 0 = .ok (.iload_n 1, 1) := by decide +kernel
theorem dX6_earned_1 : decode cX6_earned 1 = .ok (.bipush 6, 2) := by decide +kernel
theorem dX6_earned_3 : decode cX6_earned 3 = .ok (.invokestatic 54, 3) := by decide +kernel
theorem dX6_earned_6 : decode cX6_earned 6 = .ok (.aload_n 0, 1) := by decide +kernel
theorem dX6_earned_7 : decode cX6_earned 7 = .ok (.getfield 19, 3) := by decide +kernel
theorem dX6_earned_10 : decode cX6_earned 10 = .ok (.getfield 214, 3) := by decide +kernel
theorem dX6_earned_13 : decode cX6_earned 13 = .ok (.iload_n 1, 1) := by decide +kernel
theorem dX6_earned_14 : decode cX6_earned 14 = .ok (.iaload, 1) := by decide +kernel
theorem dX6_earned_15 : decode cX6_earned 15 = .ok (.ireturn, 1) := by decide +kernel
theorem dX6_tugPay_0 : decode cX6_tugPay 0 = .ok (.aload_n 0, 1) := by decide +kernel
theorem dX6_tugPay_1 : decode cX6_tugPay 1 = .ok (.getfield 48, 3) := by decide +kernel
theorem dX6_tugPay_4 : decode cX6_tugPay 4 = .ok (.ireturn, 1) := by decide +kernel
theorem dX6_port_0 : decode cX6_port 0 = .ok (.aload_n 0, 1) := by decide +kernel
theorem dX6_port_1 : decode cX6_port 1 = .ok (.getfield 51, 3) := by decide +kernel
theorem dX6_port_4 : decode cX6_port 4 = .ok (.ireturn, 1) := by decide +kernel
theorem dX6_lost_0 : decode cX6_lost 0 = .ok (.aload_n 0, 1) := by decide +kernel
theorem dX6_lost_1 : decode cX6_lost 1 = .ok (.iload_n 1, 1) := by decide +kernel
theorem dX6_lost_2 : decode cX6_lost 2 = .ok (.invokevirtual 110, 3) := by decide +kernel
theorem dX6_lost_5 : decode cX6_lost 5 = .ok (.getfield 217, 3) := by decide +kernel
theorem dX6_lost_8 : decode cX6_lost 8 = .ok (.ireturn, 1) := by decide +kernel
theorem dX6_claims_0 : decode cX6_claims 0 = .ok (.aload_n 0, 1) := by decide +kernel
theorem dX6_claims_1 : decode cX6_claims 1 = .ok (.iload_n 1, 1) := by decide +kernel
theorem dX6_claims_2 : decode cX6_claims 2 = .ok (.invokevirtual 110, 3) := by decide +kernel
theorem dX6_claims_5 : decode cX6_claims 5 = .ok (.getfield 220, 3) := by decide +kernel
theorem dX6_claims_8 : decode cX6_claims 8 = .ok (.ireturn, 1) := by decide +kernel
theorem dX6_payClaim_0 : decode cX6_payClaim 0 = .ok (.aload_n 0, 1) := by decide +kernel
theorem dX6_payClaim_1 : decode cX6_payClaim 1 = .ok (.iload_n 1, 1) := by decide +kernel
theorem dX6_payClaim_2 : decode cX6_payClaim 2 = .ok (.invokevirtual 110, 3) := by decide +kernel
theorem dX6_payClaim_5 : decode cX6_payClaim 5 = .ok (.astore_n 2, 1) := by decide +kernel
theorem dX6_payClaim_6 : decode cX6_payClaim 6 = .ok (.aload_n 2, 1) := by decide +kernel
theorem dX6_payClaim_7 : decode cX6_payClaim 7 = .ok (.getfield 220, 3) := by decide +kernel
theorem dX6_payClaim_10 : decode cX6_payClaim 10 = .ok (.ifCond .ne 13, 3) := by decide +kernel
theorem dX6_payClaim_13 : decode cX6_payClaim 13 = .ok (.new 66, 3) := by decide +kernel
theorem dX6_payClaim_16 : decode cX6_payClaim 16 = .ok (.dup, 1) := by decide +kernel
theorem dX6_payClaim_17 : decode cX6_payClaim 17 = .ok (.ldc 223, 2) := by decide +kernel
theorem dX6_payClaim_19 : decode cX6_payClaim 19 = .ok (.invokespecial 70, 3) := by decide +kernel
theorem dX6_payClaim_22 : decode cX6_payClaim 22 = .ok (.athrow, 1) := by decide +kernel
theorem dX6_payClaim_23 : decode cX6_payClaim 23 = .ok (.bipush 80, 2) := by decide +kernel
theorem dX6_payClaim_25 : decode cX6_payClaim 25 = .ok (.aload_n 2, 1) := by decide +kernel
theorem dX6_payClaim_26 : decode cX6_payClaim 26 = .ok (.getfield 225, 3) := by decide +kernel
theorem dX6_payClaim_29 : decode cX6_payClaim 29 = .ok (.imul, 1) := by decide +kernel
theorem dX6_payClaim_30 : decode cX6_payClaim 30 = .ok (.istore_n 3, 1) := by decide +kernel
theorem dX6_payClaim_31 : decode cX6_payClaim 31 = .ok (.aload_n 2, 1) := by decide +kernel
theorem dX6_payClaim_32 : decode cX6_payClaim 32 = .ok (.dup, 1) := by decide +kernel
theorem dX6_payClaim_33 : decode cX6_payClaim 33 = .ok (.getfield 220, 3) := by decide +kernel
theorem dX6_payClaim_36 : decode cX6_payClaim 36 = .ok (.iconst 1, 1) := by decide +kernel
theorem dX6_payClaim_37 : decode cX6_payClaim 37 = .ok (.isub, 1) := by decide +kernel
theorem dX6_payClaim_38 : decode cX6_payClaim 38 = .ok (.putfield 220, 3) := by decide +kernel
theorem dX6_payClaim_41 : decode cX6_payClaim 41 = .ok (.aload_n 0, 1) := by decide +kernel
theorem dX6_payClaim_42 : decode cX6_payClaim 42 = .ok (.aload_n 2, 1) := by decide +kernel
theorem dX6_payClaim_43 : decode cX6_payClaim 43 = .ok (.iload_n 3, 1) := by decide +kernel
theorem dX6_payClaim_44 : decode cX6_payClaim 44 = .ok (.ineg, 1) := by decide +kernel
theorem dX6_payClaim_45 : decode cX6_payClaim 45 = .ok (.invokevirtual 227, 3) := by decide +kernel
theorem dX6_payClaim_48 : decode cX6_payClaim 48 = .ok (.iload_n 3, 1) := by decide +kernel
theorem dX6_payClaim_49 : decode cX6_payClaim 49 = .ok (.ireturn, 1) := by decide +kernel
theorem dX6_checkPlace_0 : decode cX6_checkPlace 0 = .ok (.iload_n 0, 1) := by decide +kernel
theorem dX6_checkPlace_1 : decode cX6_checkPlace 1 = .ok (.ifCond .lt 8, 3) := by decide +kernel
theorem dX6_checkPlace_4 : decode cX6_checkPlace 4 = .ok (.iload_n 0, 1) := by decide +kernel
theorem dX6_checkPlace_5 : decode cX6_checkPlace 5 = .ok (.iload_n 1, 1) := by decide +kernel
theorem dX6_checkPlace_6 : decode cX6_checkPlace 6 = .ok (.if_icmp .lt 13, 3) := by decide +kernel
theorem dX6_checkPlace_9 : decode cX6_checkPlace 9 = .ok (.new 231, 3) := by decide +kernel
theorem dX6_checkPlace_12 : decode cX6_checkPlace 12 = .ok (.dup, 1) := by decide +kernel
theorem dX6_checkPlace_13 : decode cX6_checkPlace 13 = .ok (.ldc 233, 2) := by decide +kernel
theorem dX6_checkPlace_15 : decode cX6_checkPlace 15 = .ok (.invokespecial 235, 3) := by decide +kernel
theorem dX6_checkPlace_18 : decode cX6_checkPlace 18 = .ok (.athrow, 1) := by decide +kernel
theorem dX6_checkPlace_19 : decode cX6_checkPlace 19 = .ok (.return_, 1) := by decide +kernel
theorem dX6_checkRange_0 : decode cX6_checkRange 0 = .ok (.iload_n 0, 1) := by decide +kernel
theorem dX6_checkRange_1 : decode cX6_checkRange 1 = .ok (.iload_n 1, 1) := by decide +kernel
theorem dX6_checkRange_2 : decode cX6_checkRange 2 = .ok (.if_icmp .lt 8, 3) := by decide +kernel
theorem dX6_checkRange_5 : decode cX6_checkRange 5 = .ok (.iload_n 0, 1) := by decide +kernel
theorem dX6_checkRange_6 : decode cX6_checkRange 6 = .ok (.iload_n 2, 1) := by decide +kernel
theorem dX6_checkRange_7 : decode cX6_checkRange 7 = .ok (.if_icmp .le 13, 3) := by decide +kernel
theorem dX6_checkRange_10 : decode cX6_checkRange 10 = .ok (.new 160, 3) := by decide +kernel
theorem dX6_checkRange_13 : decode cX6_checkRange 13 = .ok (.dup, 1) := by decide +kernel
theorem dX6_checkRange_14 : decode cX6_checkRange 14 = .ok (.ldc 236, 2) := by decide +kernel
theorem dX6_checkRange_16 : decode cX6_checkRange 16 = .ok (.invokespecial 164, 3) := by decide +kernel
theorem dX6_checkRange_19 : decode cX6_checkRange 19 = .ok (.athrow, 1) := by decide +kernel
theorem dX6_checkRange_20 : decode cX6_checkRange 20 = .ok (.return_, 1) := by decide +kernel
theorem dX6_shipAt_0 : decode cX6_shipAt 0 = .ok (.iload_n 1, 1) := by decide +kernel
theorem dX6_shipAt_1 : decode cX6_shipAt 1 = .ok (.aload_n 0, 1) := by decide +kernel
theorem dX6_shipAt_2 : decode cX6_shipAt 2 = .ok (.getfield 33, 3) := by decide +kernel
theorem dX6_shipAt_5 : decode cX6_shipAt 5 = .ok (.invokevirtual 96, 3) := by decide +kernel
theorem dX6_shipAt_8 : decode cX6_shipAt 8 = .ok (.invokestatic 54, 3) := by decide +kernel
theorem dX6_shipAt_11 : decode cX6_shipAt 11 = .ok (.aload_n 0, 1) := by decide +kernel
theorem dX6_shipAt_12 : decode cX6_shipAt 12 = .ok (.getfield 33, 3) := by decide +kernel
theorem dX6_shipAt_15 : decode cX6_shipAt 15 = .ok (.iload_n 1, 1) := by decide +kernel
theorem dX6_shipAt_16 : decode cX6_shipAt 16 = .ok (.invokevirtual 238, 3) := by decide +kernel
theorem dX6_shipAt_19 : decode cX6_shipAt 19 = .ok (.checkcast 101, 3) := by decide +kernel
theorem dX6_shipAt_22 : decode cX6_shipAt 22 = .ok (.areturn, 1) := by decide +kernel
theorem dX6_endMoves_0 : decode cX6_endMoves 0 = .ok (.iconst 0, 1) := by decide +kernel
theorem dX6_endMoves_1 : decode cX6_endMoves 1 = .ok (.istore_n 1, 1) := by decide +kernel
theorem dX6_endMoves_2 : decode cX6_endMoves 2 = .ok (.iload_n 1, 1) := by decide +kernel
theorem dX6_endMoves_3 : decode cX6_endMoves 3 = .ok (.aload_n 0, 1) := by decide +kernel
theorem dX6_endMoves_4 : decode cX6_endMoves 4 = .ok (.getfield 33, 3) := by decide +kernel
theorem dX6_endMoves_7 : decode cX6_endMoves 7 = .ok (.invokevirtual 96, 3) := by decide +kernel
theorem dX6_endMoves_10 : decode cX6_endMoves 10 = .ok (.if_icmp .ge 27, 3) := by decide +kernel
theorem dX6_endMoves_13 : decode cX6_endMoves 13 = .ok (.aload_n 0, 1) := by decide +kernel
theorem dX6_endMoves_14 : decode cX6_endMoves 14 = .ok (.getfield 33, 3) := by decide +kernel
theorem dX6_endMoves_17 : decode cX6_endMoves 17 = .ok (.iload_n 1, 1) := by decide +kernel
theorem dX6_endMoves_18 : decode cX6_endMoves 18 = .ok (.invokevirtual 238, 3) := by decide +kernel
theorem dX6_endMoves_21 : decode cX6_endMoves 21 = .ok (.checkcast 101, 3) := by decide +kernel
theorem dX6_endMoves_24 : decode cX6_endMoves 24 = .ok (.aload_n 0, 1) := by decide +kernel
theorem dX6_endMoves_25 : decode cX6_endMoves 25 = .ok (.getfield 44, 3) := by decide +kernel
theorem dX6_endMoves_28 : decode cX6_endMoves 28 = .ok (.invokevirtual 242, 3) := by decide +kernel
theorem dX6_endMoves_31 : decode cX6_endMoves 31 = .ok (.iinc 1 1, 3) := by decide +kernel
theorem dX6_endMoves_34 : decode cX6_endMoves 34 = .ok (.goto (-32), 3) := by decide +kernel
theorem dX6_endMoves_37 : decode cX6_endMoves 37 = .ok (.return_, 1) := by decide +kernel
theorem dX6_takeBerthDues_0 : decode cX6_takeBerthDues 0 = .ok (.iconst 0, 1) := by decide +kernel
theorem dX6_takeBerthDues_1 : decode cX6_takeBerthDues 1 = .ok (.istore_n 1, 1) := by decide +kernel
theorem dX6_takeBerthDues_2 : decode cX6_takeBerthDues 2 = .ok (.iload_n 1, 1) := by decide +kernel
theorem dX6_takeBerthDues_3 : decode cX6_takeBerthDues 3 = .ok (.aload_n 0, 1) := by decide +kernel
theorem dX6_takeBerthDues_4 : decode cX6_takeBerthDues 4 = .ok (.getfield 33, 3) := by decide +kernel
theorem dX6_takeBerthDues_7 : decode cX6_takeBerthDues 7 = .ok (.invokevirtual 96, 3) := by decide +kernel
theorem dX6_takeBerthDues_10 : decode cX6_takeBerthDues 10 = .ok (.if_icmp .ge 40, 3) := by decide +kernel
theorem dX6_takeBerthDues_13 : decode cX6_takeBerthDues 13 = .ok (.aload_n 0, 1) := by decide +kernel
theorem dX6_takeBerthDues_14 : decode cX6_takeBerthDues 14 = .ok (.getfield 33, 3) := by decide +kernel
theorem dX6_takeBerthDues_17 : decode cX6_takeBerthDues 17 = .ok (.iload_n 1, 1) := by decide +kernel
theorem dX6_takeBerthDues_18 : decode cX6_takeBerthDues 18 = .ok (.invokevirtual 238, 3) := by decide +kernel
theorem dX6_takeBerthDues_21 : decode cX6_takeBerthDues 21 = .ok (.checkcast 101, 3) := by decide +kernel
theorem dX6_takeBerthDues_24 : decode cX6_takeBerthDues 24 = .ok (.astore_n 2, 1) := by decide +kernel
theorem dX6_takeBerthDues_25 : decode cX6_takeBerthDues 25 = .ok (.aload_n 2, 1) := by decide +kernel
theorem dX6_takeBerthDues_26 : decode cX6_takeBerthDues 26 = .ok (.getfield 138, 3) := by decide +kernel
theorem dX6_takeBerthDues_29 : decode cX6_takeBerthDues 29 = .ok (.iconst 2, 1) := by decide +kernel
theorem dX6_takeBerthDues_30 : decode cX6_takeBerthDues 30 = .ok (.if_icmp .ne 14, 3) := by decide +kernel
theorem dX6_takeBerthDues_33 : decode cX6_takeBerthDues 33 = .ok (.aload_n 0, 1) := by decide +kernel
theorem dX6_takeBerthDues_34 : decode cX6_takeBerthDues 34 = .ok (.aload_n 2, 1) := by decide +kernel
theorem dX6_takeBerthDues_35 : decode cX6_takeBerthDues 35 = .ok (.iconst 5, 1) := by decide +kernel
theorem dX6_takeBerthDues_36 : decode cX6_takeBerthDues 36 = .ok (.aload_n 2, 1) := by decide +kernel
theorem dX6_takeBerthDues_37 : decode cX6_takeBerthDues 37 = .ok (.getfield 225, 3) := by decide +kernel
theorem dX6_takeBerthDues_40 : decode cX6_takeBerthDues 40 = .ok (.imul, 1) := by decide +kernel
theorem dX6_takeBerthDues_41 : decode cX6_takeBerthDues 41 = .ok (.invokevirtual 227, 3) := by decide +kernel
theorem dX6_takeBerthDues_44 : decode cX6_takeBerthDues 44 = .ok (.iinc 1 1, 3) := by decide +kernel
theorem dX6_takeBerthDues_47 : decode cX6_takeBerthDues 47 = .ok (.goto (-45), 3) := by decide +kernel
theorem dX6_takeBerthDues_50 : decode cX6_takeBerthDues 50 = .ok (.return_, 1) := by decide +kernel
theorem dX6_lookAtOrders_0 : decode cX6_lookAtOrders 0 = .ok (.iconst 0, 1) := by decide +kernel
theorem dX6_lookAtOrders_1 : decode cX6_lookAtOrders 1 = .ok (.istore_n 1, 1) := by decide +kernel
theorem dX6_lookAtOrders_2 : decode cX6_lookAtOrders 2 = .ok (.aload_n 0, 1) := by decide +kernel
theorem dX6_lookAtOrders_3 : decode cX6_lookAtOrders 3 = .ok (.getfield 40, 3) := by decide +kernel
theorem dX6_lookAtOrders_6 : decode cX6_lookAtOrders 6 = .ok (.invokevirtual 132, 3) := by decide +kernel
theorem dX6_lookAtOrders_9 : decode cX6_lookAtOrders 9 = .ok (.istore_n 2, 1) := by decide +kernel
theorem dX6_lookAtOrders_10 : decode cX6_lookAtOrders 10 = .ok (.iload_n 2, 1) := by decide +kernel
theorem dX6_lookAtOrders_11 : decode cX6_lookAtOrders 11 = .ok (.ifCond .le 51, 3) := by decide +kernel
theorem dX6_lookAtOrders_14 : decode cX6_lookAtOrders 14 = .ok (.iload_n 1, 1) := by decide +kernel
theorem dX6_lookAtOrders_15 : decode cX6_lookAtOrders 15 = .ok (.aload_n 0, 1) := by decide +kernel
theorem dX6_lookAtOrders_16 : decode cX6_lookAtOrders 16 = .ok (.getfield 40, 3) := by decide +kernel
theorem dX6_lookAtOrders_19 : decode cX6_lookAtOrders 19 = .ok (.invokevirtual 132, 3) := by decide +kernel
theorem dX6_lookAtOrders_22 : decode cX6_lookAtOrders 22 = .ok (.if_icmp .ge 40, 3) := by decide +kernel
theorem dX6_lookAtOrders_25 : decode cX6_lookAtOrders 25 = .ok (.aload_n 0, 1) := by decide +kernel
theorem dX6_lookAtOrders_26 : decode cX6_lookAtOrders 26 = .ok (.getfield 40, 3) := by decide +kernel
theorem dX6_lookAtOrders_29 : decode cX6_lookAtOrders 29 = .ok (.iload_n 1, 1) := by decide +kernel
theorem dX6_lookAtOrders_30 : decode cX6_lookAtOrders 30 = .ok (.invokevirtual 246, 3) := by decide +kernel
theorem dX6_lookAtOrders_33 : decode cX6_lookAtOrders 33 = .ok (.astore_n 3, 1) := by decide +kernel
theorem dX6_lookAtOrders_34 : decode cX6_lookAtOrders 34 = .ok (.aload_n 0, 1) := by decide +kernel
theorem dX6_lookAtOrders_35 : decode cX6_lookAtOrders 35 = .ok (.aload_n 3, 1) := by decide +kernel
theorem dX6_lookAtOrders_36 : decode cX6_lookAtOrders 36 = .ok (.invokevirtual 248, 3) := by decide +kernel
theorem dX6_lookAtOrders_39 : decode cX6_lookAtOrders 39 = .ok (.ifCond .eq 14, 3) := by decide +kernel
theorem dX6_lookAtOrders_42 : decode cX6_lookAtOrders 42 = .ok (.aload_n 0, 1) := by decide +kernel
theorem dX6_lookAtOrders_43 : decode cX6_lookAtOrders 43 = .ok (.getfield 40, 3) := by decide +kernel
theorem dX6_lookAtOrders_46 : decode cX6_lookAtOrders 46 = .ok (.aload_n 3, 1) := by decide +kernel
theorem dX6_lookAtOrders_47 : decode cX6_lookAtOrders 47 = .ok (.invokevirtual 135, 3) := by decide +kernel
theorem dX6_lookAtOrders_50 : decode cX6_lookAtOrders 50 = .ok (.goto 6, 3) := by decide +kernel
theorem dX6_lookAtOrders_53 : decode cX6_lookAtOrders 53 = .ok (.iinc 1 1, 3) := by decide +kernel
theorem dX6_lookAtOrders_56 : decode cX6_lookAtOrders 56 = .ok (.iinc 2 (-1), 3) := by decide +kernel
theorem dX6_lookAtOrders_59 : decode cX6_lookAtOrders 59 = .ok (.goto (-49), 3) := by decide +kernel
theorem dX6_lookAtOrders_62 : decode cX6_lookAtOrders 62 = .ok (.return_, 1) := by decide +kernel
theorem dX6_settles_0 : decode cX6_settles 0 = .ok (.aload_n 0, 1) := by decide +kernel
theorem dX6_settles_1 : decode cX6_settles 1 = .ok (.getfield 44, 3) := by decide +kernel
theorem dX6_settles_4 : decode cX6_settles 4 = .ok (.aload_n 1, 1) := by decide +kernel
theorem dX6_settles_5 : decode cX6_settles 5 = .ok (.getfield 125, 3) := by decide +kernel
theorem dX6_settles_8 : decode cX6_settles 8 = .ok (.isub, 1) := by decide +kernel
theorem dX6_settles_9 : decode cX6_settles 9 = .ok (.istore_n 2, 1) := by decide +kernel
theorem dX6_settles_10 : decode cX6_settles 10 = .ok (.iload_n 2, 1) := by decide +kernel
theorem dX6_settles_11 : decode cX6_settles 11 = .ok (.ifCond .ge 5, 3) := by decide +kernel
theorem dX6_settles_14 : decode cX6_settles 14 = .ok (.iconst 0, 1) := by decide +kernel
theorem dX6_settles_15 : decode cX6_settles 15 = .ok (.ireturn, 1) := by decide +kernel
theorem dX6_settles_16 : decode cX6_settles 16 = .ok (.aload_n 1, 1) := by decide +kernel
theorem dX6_settles_17 : decode cX6_settles 17 = .ok (.getfield 138, 3) := by decide +kernel
theorem dX6_settles_20 : decode cX6_settles 20 = .ok (.iconst 2, 1) := by decide +kernel
theorem dX6_settles_21 : decode cX6_settles 21 = .ok (.if_icmp .ne 7, 3) := by decide +kernel
theorem dX6_settles_24 : decode cX6_settles 24 = .ok (.iconst 1, 1) := by decide +kernel
theorem dX6_settles_25 : decode cX6_settles 25 = .ok (.goto 4, 3) := by decide +kernel
theorem dX6_settles_28 : decode cX6_settles 28 = .ok (.iconst 0, 1) := by decide +kernel
theorem dX6_settles_29 : decode cX6_settles 29 = .ok (.istore_n 3, 1) := by decide +kernel
theorem dX6_settles_30 : decode cX6_settles 30 = .ok (.aload_n 0, 1) := by decide +kernel
theorem dX6_settles_31 : decode cX6_settles 31 = .ok (.getfield 10, 3) := by decide +kernel
theorem dX6_settles_34 : decode cX6_settles 34 = .ok (.aload_n 1, 1) := by decide +kernel
theorem dX6_settles_35 : decode cX6_settles 35 = .ok (.iload_n 3, 1) := by decide +kernel
theorem dX6_settles_36 : decode cX6_settles 36 = .ok (.aload_n 0, 1) := by decide +kernel
theorem dX6_settles_37 : decode cX6_settles 37 = .ok (.getfield 44, 3) := by decide +kernel
theorem dX6_settles_40 : decode cX6_settles 40 = .ok (.invokevirtual 141, 3) := by decide +kernel
theorem dX6_settles_43 : decode cX6_settles 43 = .ok (.istore 4, 2) := by decide +kernel
theorem dX6_settles_45 : decode cX6_settles 45 = .ok (.iload_n 2, 1) := by decide +kernel
theorem dX6_settles_46 : decode cX6_settles 46 = .ok (.ifCond .ne 15, 3) := by decide +kernel
theorem dX6_settles_49 : decode cX6_settles 49 = .ok (.iload 4, 2) := by decide +kernel
theorem dX6_settles_51 : decode cX6_settles 51 = .ok (.ifCond .ne 10, 3) := by decide +kernel
theorem dX6_settles_54 : decode cX6_settles 54 = .ok (.aload_n 0, 1) := by decide +kernel
theorem dX6_settles_55 : decode cX6_settles 55 = .ok (.aload_n 1, 1) := by decide +kernel
theorem dX6_settles_56 : decode cX6_settles 56 = .ok (.invokevirtual 252, 3) := by decide +kernel
theorem dX6_settles_59 : decode cX6_settles 59 = .ok (.iconst 1, 1) := by decide +kernel
theorem dX6_settles_60 : decode cX6_settles 60 = .ok (.ireturn, 1) := by decide +kernel
theorem dX6_settles_61 : decode cX6_settles 61 = .ok (.iload 4, 2) := by decide +kernel
theorem dX6_settles_63 : decode cX6_settles 63 = .ok (.ifCond .eq 14, 3) := by decide +kernel
theorem dX6_settles_66 : decode cX6_settles 66 = .ok (.aload_n 0, 1) := by decide +kernel
theorem dX6_settles_67 : decode cX6_settles 67 = .ok (.aload_n 1, 1) := by decide +kernel
theorem dX6_settles_68 : decode cX6_settles 68 = .ok (.iload_n 3, 1) := by decide +kernel
theorem dX6_settles_69 : decode cX6_settles 69 = .ok (.invokevirtual 255, 3) := by decide +kernel
theorem dX6_settles_72 : decode cX6_settles 72 = .ok (.ifCond .eq 5, 3) := by decide +kernel
theorem dX6_settles_75 : decode cX6_settles 75 = .ok (.iconst 1, 1) := by decide +kernel
theorem dX6_settles_76 : decode cX6_settles 76 = .ok (.ireturn, 1) := by decide +kernel
theorem dX6_settles_77 : decode cX6_settles 77 = .ok (.iload_n 2, 1) := by decide +kernel
theorem dX6_settles_78 : decode cX6_settles 78 = .ok (.iconst 3, 1) := by decide +kernel
theorem dX6_settles_79 : decode cX6_settles 79 = .ok (.if_icmp .lt 15, 3) := by decide +kernel
theorem dX6_settles_82 : decode cX6_settles 82 = .ok (.aload_n 1, 1) := by decide +kernel
theorem dX6_settles_83 : decode cX6_settles 83 = .ok (.dup, 1) := by decide +kernel
theorem dX6_settles_84 : decode cX6_settles 84 = .ok (.getfield 220, 3) := by decide +kernel
theorem dX6_settles_87 : decode cX6_settles 87 = .ok (.iconst 1, 1) := by decide +kernel
theorem dX6_settles_88 : decode cX6_settles 88 = .ok (.iadd, 1) := by decide +kernel
theorem dX6_settles_89 : decode cX6_settles 89 = .ok (.putfield 220, 3) := by decide +kernel
theorem dX6_settles_92 : decode cX6_settles 92 = .ok (.iconst 1, 1) := by decide +kernel
theorem dX6_settles_93 : decode cX6_settles 93 = .ok (.ireturn, 1) := by decide +kernel
theorem dX6_settles_94 : decode cX6_settles 94 = .ok (.iconst 0, 1) := by decide +kernel
theorem dX6_settles_95 : decode cX6_settles 95 = .ok (.ireturn, 1) := by decide +kernel
theorem dX6_loseTide_0 : decode cX6_loseTide 0 = .ok (.aload_n 1, 1) := by decide +kernel
theorem dX6_loseTide_1 : decode cX6_loseTide 1 = .ok (.dup, 1) := by decide +kernel
theorem dX6_loseTide_2 : decode cX6_loseTide 2 = .ok (.getfield 217, 3) := by decide +kernel
theorem dX6_loseTide_5 : decode cX6_loseTide 5 = .ok (.iconst 1, 1) := by decide +kernel
theorem dX6_loseTide_6 : decode cX6_loseTide 6 = .ok (.iadd, 1) := by decide +kernel
theorem dX6_loseTide_7 : decode cX6_loseTide 7 = .ok (.putfield 217, 3) := by decide +kernel
theorem dX6_loseTide_10 : decode cX6_loseTide 10 = .ok (.iconst 0, 1) := by decide +kernel
theorem dX6_loseTide_11 : decode cX6_loseTide 11 = .ok (.istore_n 2, 1) := by decide +kernel
theorem dX6_loseTide_12 : decode cX6_loseTide 12 = .ok (.iload_n 2, 1) := by decide +kernel
theorem dX6_loseTide_13 : decode cX6_loseTide 13 = .ok (.iconst 2, 1) := by decide +kernel
theorem dX6_loseTide_14 : decode cX6_loseTide 14 = .ok (.if_icmp .ge 23, 3) := by decide +kernel
theorem dX6_loseTide_17 : decode cX6_loseTide 17 = .ok (.aload_n 0, 1) := by decide +kernel
theorem dX6_loseTide_18 : decode cX6_loseTide 18 = .ok (.aload_n 1, 1) := by decide +kernel
theorem dX6_loseTide_19 : decode cX6_loseTide 19 = .ok (.aload_n 0, 1) := by decide +kernel
theorem dX6_loseTide_20 : decode cX6_loseTide 20 = .ok (.getfield 19, 3) := by decide +kernel
theorem dX6_loseTide_23 : decode cX6_loseTide 23 = .ok (.getfield 169, 3) := by decide +kernel
theorem dX6_loseTide_26 : decode cX6_loseTide 26 = .ok (.iload_n 2, 1) := by decide +kernel
theorem dX6_loseTide_27 : decode cX6_loseTide 27 = .ok (.iaload, 1) := by decide +kernel
theorem dX6_loseTide_28 : decode cX6_loseTide 28 = .ok (.invokevirtual 259, 3) := by decide +kernel
theorem dX6_loseTide_31 : decode cX6_loseTide 31 = .ok (.iinc 2 1, 3) := by decide +kernel
theorem dX6_loseTide_34 : decode cX6_loseTide 34 = .ok (.goto (-22), 3) := by decide +kernel
theorem dX6_loseTide_37 : decode cX6_loseTide 37 = .ok (.return_, 1) := by decide +kernel
theorem dX6_begins_0 : decode cX6_begins 0 = .ok (.aload_n 0, 1) := by decide +kernel
theorem dX6_begins_1 : decode cX6_begins 1 = .ok (.getfield 26, 3) := by decide +kernel
theorem dX6_begins_4 : decode cX6_begins 4 = .ok (.invokevirtual 62, 3) := by decide +kernel
theorem dX6_begins_7 : decode cX6_begins 7 = .ok (.bipush 100, 2) := by decide +kernel
theorem dX6_begins_9 : decode cX6_begins 9 = .ok (.if_icmp .lt 5, 3) := by decide +kernel
theorem dX6_begins_12 : decode cX6_begins 12 = .ok (.iconst 0, 1) := by decide +kernel
theorem dX6_begins_13 : decode cX6_begins 13 = .ok (.ireturn, 1) := by decide +kernel
theorem dX6_begins_14 : decode cX6_begins 14 = .ok (.iload_n 2, 1) := by decide +kernel
theorem dX6_begins_15 : decode cX6_begins 15 = .ok (.ifCond .ne 16, 3) := by decide +kernel
theorem dX6_begins_18 : decode cX6_begins 18 = .ok (.aload_n 0, 1) := by decide +kernel
theorem dX6_begins_19 : decode cX6_begins 19 = .ok (.aload_n 1, 1) := by decide +kernel
theorem dX6_begins_20 : decode cX6_begins 20 = .ok (.getfield 202, 3) := by decide +kernel
theorem dX6_begins_23 : decode cX6_begins 23 = .ok (.invokevirtual 262, 3) := by decide +kernel
theorem dX6_begins_26 : decode cX6_begins 26 = .ok (.ifCond .ne 5, 3) := by decide +kernel
theorem dX6_begins_29 : decode cX6_begins 29 = .ok (.iconst 0, 1) := by decide +kernel
theorem dX6_begins_30 : decode cX6_begins 30 = .ok (.ireturn, 1) := by decide +kernel
theorem dX6_begins_31 : decode cX6_begins 31 = .ok (.aload_n 0, 1) := by decide +kernel
theorem dX6_begins_32 : decode cX6_begins 32 = .ok (.invokevirtual 265, 3) := by decide +kernel
theorem dX6_begins_35 : decode cX6_begins 35 = .ok (.istore_n 3, 1) := by decide +kernel
theorem dX6_begins_36 : decode cX6_begins 36 = .ok (.aload_n 0, 1) := by decide +kernel
theorem dX6_begins_37 : decode cX6_begins 37 = .ok (.getfield 26, 3) := by decide +kernel
theorem dX6_begins_40 : decode cX6_begins 40 = .ok (.aload_n 0, 1) := by decide +kernel
theorem dX6_begins_41 : decode cX6_begins 41 = .ok (.getfield 44, 3) := by decide +kernel
theorem dX6_begins_44 : decode cX6_begins 44 = .ok (.aload_n 0, 1) := by decide +kernel
theorem dX6_begins_45 : decode cX6_begins 45 = .ok (.getfield 26, 3) := by decide +kernel
theorem dX6_begins_48 : decode cX6_begins 48 = .ok (.invokevirtual 62, 3) := by decide +kernel
theorem dX6_begins_51 : decode cX6_begins 51 = .ok (.invokevirtual 176, 3) := by decide +kernel
theorem dX6_begins_54 : decode cX6_begins 54 = .ok (.aload_n 1, 1) := by decide +kernel
theorem dX6_begins_55 : decode cX6_begins 55 = .ok (.getfield 225, 3) := by decide +kernel
theorem dX6_begins_58 : decode cX6_begins 58 = .ok (.invokestatic 268, 3) := by decide +kernel
theorem dX6_begins_61 : decode cX6_begins 61 = .ok (.istore 4, 2) := by decide +kernel
theorem dX6_begins_63 : decode cX6_begins 63 = .ok (.iload_n 3, 1) := by decide +kernel
theorem dX6_begins_64 : decode cX6_begins 64 = .ok (.iconst (-1), 1) := by decide +kernel
theorem dX6_begins_65 : decode cX6_begins 65 = .ok (.if_icmp .eq 8, 3) := by decide +kernel
theorem dX6_begins_68 : decode cX6_begins 68 = .ok (.iload 4, 2) := by decide +kernel
theorem dX6_begins_70 : decode cX6_begins 70 = .ok (.ifCond .ne 5, 3) := by decide +kernel
theorem dX6_begins_73 : decode cX6_begins 73 = .ok (.iconst 0, 1) := by decide +kernel
theorem dX6_begins_74 : decode cX6_begins 74 = .ok (.ireturn, 1) := by decide +kernel
theorem dX6_begins_75 : decode cX6_begins 75 = .ok (.aload_n 0, 1) := by decide +kernel
theorem dX6_begins_76 : decode cX6_begins 76 = .ok (.getfield 26, 3) := by decide +kernel
theorem dX6_begins_79 : decode cX6_begins 79 = .ok (.new 184, 3) := by decide +kernel
theorem dX6_begins_82 : decode cX6_begins 82 = .ok (.dup, 1) := by decide +kernel
theorem dX6_begins_83 : decode cX6_begins 83 = .ok (.aload_n 0, 1) := by decide +kernel
theorem dX6_begins_84 : decode cX6_begins 84 = .ok (.getfield 44, 3) := by decide +kernel
theorem dX6_begins_87 : decode cX6_begins 87 = .ok (.aload_n 1, 1) := by decide +kernel
theorem dX6_begins_88 : decode cX6_begins 88 = .ok (.iload_n 2, 1) := by decide +kernel
theorem dX6_begins_89 : decode cX6_begins 89 = .ok (.iload_n 3, 1) := by decide +kernel
theorem dX6_begins_90 : decode cX6_begins 90 = .ok (.iload 4, 2) := by decide +kernel
theorem dX6_begins_92 : decode cX6_begins 92 = .ok (.invokespecial 271, 3) := by decide +kernel
theorem dX6_begins_95 : decode cX6_begins 95 = .ok (.invokevirtual 274, 3) := by decide +kernel
theorem dX6_begins_98 : decode cX6_begins 98 = .ok (.aload_n 0, 1) := by decide +kernel
theorem dX6_begins_99 : decode cX6_begins 99 = .ok (.getfield 19, 3) := by decide +kernel
theorem dX6_begins_102 : decode cX6_begins 102 = .ok (.iload_n 3, 1) := by decide +kernel
theorem dX6_begins_103 : decode cX6_begins 103 = .ok (.invokevirtual 278, 3) := by decide +kernel
theorem dX6_begins_106 : decode cX6_begins 106 = .ok (.aload_n 1, 1) := by decide +kernel
theorem dX6_begins_107 : decode cX6_begins 107 = .ok (.aload_n 0, 1) := by decide +kernel
theorem dX6_begins_108 : decode cX6_begins 108 = .ok (.getfield 44, 3) := by decide +kernel
theorem dX6_begins_111 : decode cX6_begins 111 = .ok (.iload_n 2, 1) := by decide +kernel
theorem dX6_begins_112 : decode cX6_begins 112 = .ok (.invokevirtual 281, 3) := by decide +kernel
theorem dX6_begins_115 : decode cX6_begins 115 = .ok (.aload_n 0, 1) := by decide +kernel
theorem dX6_begins_116 : decode cX6_begins 116 = .ok (.aload_n 1, 1) := by decide +kernel
theorem dX6_begins_117 : decode cX6_begins 117 = .ok (.iload_n 3, 1) := by decide +kernel
theorem dX6_begins_118 : decode cX6_begins 118 = .ok (.invokevirtual 259, 3) := by decide +kernel
theorem dX6_begins_121 : decode cX6_begins 121 = .ok (.aload_n 0, 1) := by decide +kernel
theorem dX6_begins_122 : decode cX6_begins 122 = .ok (.aload_n 1, 1) := by decide +kernel
theorem dX6_begins_123 : decode cX6_begins 123 = .ok (.invokevirtual 285, 3) := by decide +kernel
theorem dX6_begins_126 : decode cX6_begins 126 = .ok (.iload_n 2, 1) := by decide +kernel
theorem dX6_begins_127 : decode cX6_begins 127 = .ok (.ifCond .ne 15, 3) := by decide +kernel
theorem dX6_begins_130 : decode cX6_begins 130 = .ok (.aload_n 0, 1) := by decide +kernel
theorem dX6_begins_131 : decode cX6_begins 131 = .ok (.aload_n 1, 1) := by decide +kernel
theorem dX6_begins_132 : decode cX6_begins 132 = .ok (.bipush 100, 2) := by decide +kernel
theorem dX6_begins_134 : decode cX6_begins 134 = .ok (.aload_n 1, 1) := by decide +kernel
theorem dX6_begins_135 : decode cX6_begins 135 = .ok (.getfield 225, 3) := by decide +kernel
theorem dX6_begins_138 : decode cX6_begins 138 = .ok (.imul, 1) := by decide +kernel
theorem dX6_begins_139 : decode cX6_begins 139 = .ok (.invokevirtual 227, 3) := by decide +kernel
theorem dX6_begins_142 : decode cX6_begins 142 = .ok (.iconst 1, 1) := by decide +kernel
theorem dX6_begins_143 : decode cX6_begins 143 = .ok (.ireturn, 1) := by decide +kernel
theorem dX6_berthIsFreeNow_0 : decode cX6_berthIsFreeNow 0 = .ok (.iconst 0, 1) := by decide +kernel
theorem dX6_berthIsFreeNow_1 : decode cX6_berthIsFreeNow 1 = .ok (.istore_n 2, 1) := by decide +kernel
theorem dX6_berthIsFreeNow_2 : decode cX6_berthIsFreeNow 2 = .ok (.iload_n 2, 1) := by decide +kernel
theorem dX6_berthIsFreeNow_3 : decode cX6_berthIsFreeNow 3 = .ok (.aload_n 0, 1) := by decide +kernel
theorem dX6_berthIsFreeNow_4 : decode cX6_berthIsFreeNow 4 = .ok (.getfield 33, 3) := by decide +kernel
theorem dX6_berthIsFreeNow_7 : decode cX6_berthIsFreeNow 7 = .ok (.invokevirtual 96, 3) := by decide +kernel
theorem dX6_berthIsFreeNow_10 : decode cX6_berthIsFreeNow 10 = .ok (.if_icmp .ge 46, 3) := by decide +kernel
theorem dX6_berthIsFreeNow_13 : decode cX6_berthIsFreeNow 13 = .ok (.aload_n 0, 1) := by decide +kernel
theorem dX6_berthIsFreeNow_14 : decode cX6_berthIsFreeNow 14 = .ok (.getfield 33, 3) := by decide +kernel
theorem dX6_berthIsFreeNow_17 : decode cX6_berthIsFreeNow 17 = .ok (.iload_n 2, 1) := by decide +kernel
theorem dX6_berthIsFreeNow_18 : decode cX6_berthIsFreeNow 18 = .ok (.invokevirtual 238, 3) := by decide +kernel
theorem dX6_berthIsFreeNow_21 : decode cX6_berthIsFreeNow 21 = .ok (.checkcast 101, 3) := by decide +kernel
theorem dX6_berthIsFreeNow_24 : decode cX6_berthIsFreeNow 24 = .ok (.astore_n 3, 1) := by decide +kernel
theorem dX6_berthIsFreeNow_25 : decode cX6_berthIsFreeNow 25 = .ok (.aload_n 3, 1) := by decide +kernel
theorem dX6_berthIsFreeNow_26 : decode cX6_berthIsFreeNow 26 = .ok (.getfield 202, 3) := by decide +kernel
theorem dX6_berthIsFreeNow_29 : decode cX6_berthIsFreeNow 29 = .ok (.iload_n 1, 1) := by decide +kernel
theorem dX6_berthIsFreeNow_30 : decode cX6_berthIsFreeNow 30 = .ok (.if_icmp .ne 20, 3) := by decide +kernel
theorem dX6_berthIsFreeNow_33 : decode cX6_berthIsFreeNow 33 = .ok (.aload_n 3, 1) := by decide +kernel
theorem dX6_berthIsFreeNow_34 : decode cX6_berthIsFreeNow 34 = .ok (.getfield 138, 3) := by decide +kernel
theorem dX6_berthIsFreeNow_37 : decode cX6_berthIsFreeNow 37 = .ok (.ifCond .eq 13, 3) := by decide +kernel
theorem dX6_berthIsFreeNow_40 : decode cX6_berthIsFreeNow 40 = .ok (.aload_n 3, 1) := by decide +kernel
theorem dX6_berthIsFreeNow_41 : decode cX6_berthIsFreeNow 41 = .ok (.getfield 138, 3) := by decide +kernel
theorem dX6_berthIsFreeNow_44 : decode cX6_berthIsFreeNow 44 = .ok (.iconst 4, 1) := by decide +kernel
theorem dX6_berthIsFreeNow_45 : decode cX6_berthIsFreeNow 45 = .ok (.if_icmp .eq 5, 3) := by decide +kernel
theorem dX6_berthIsFreeNow_48 : decode cX6_berthIsFreeNow 48 = .ok (.iconst 0, 1) := by decide +kernel
theorem dX6_berthIsFreeNow_49 : decode cX6_berthIsFreeNow 49 = .ok (.ireturn, 1) := by decide +kernel
theorem dX6_berthIsFreeNow_50 : decode cX6_berthIsFreeNow 50 = .ok (.iinc 2 1, 3) := by decide +kernel
theorem dX6_berthIsFreeNow_53 : decode cX6_berthIsFreeNow 53 = .ok (.goto (-51), 3) := by decide +kernel
theorem dX6_berthIsFreeNow_56 : decode cX6_berthIsFreeNow 56 = .ok (.iconst 1, 1) := by decide +kernel
theorem dX6_berthIsFreeNow_57 : decode cX6_berthIsFreeNow 57 = .ok (.ireturn, 1) := by decide +kernel
theorem dX6_firstReadyPilot_0 : decode cX6_firstReadyPilot 0 = .ok (.iconst 0, 1) := by decide +kernel
theorem dX6_firstReadyPilot_1 : decode cX6_firstReadyPilot 1 = .ok (.istore_n 1, 1) := by decide +kernel
theorem dX6_firstReadyPilot_2 : decode cX6_firstReadyPilot 2 = .ok (.iload_n 1, 1) := by decide +kernel
theorem dX6_firstReadyPilot_3 : decode cX6_firstReadyPilot 3 = .ok (.bipush 6, 2) := by decide +kernel
theorem dX6_firstReadyPilot_5 : decode cX6_firstReadyPilot 5 = .ok (.if_icmp .ge 43, 3) := by decide +kernel
theorem dX6_firstReadyPilot_8 : decode cX6_firstReadyPilot 8 = .ok (.aload_n 0, 1) := by decide +kernel
theorem dX6_firstReadyPilot_9 : decode cX6_firstReadyPilot 9 = .ok (.getfield 19, 3) := by decide +kernel
theorem dX6_firstReadyPilot_12 : decode cX6_firstReadyPilot 12 = .ok (.getfield 169, 3) := by decide +kernel
theorem dX6_firstReadyPilot_15 : decode cX6_firstReadyPilot 15 = .ok (.iload_n 1, 1) := by decide +kernel
theorem dX6_firstReadyPilot_16 : decode cX6_firstReadyPilot 16 = .ok (.iaload, 1) := by decide +kernel
theorem dX6_firstReadyPilot_17 : decode cX6_firstReadyPilot 17 = .ok (.istore_n 2, 1) := by decide +kernel
theorem dX6_firstReadyPilot_18 : decode cX6_firstReadyPilot 18 = .ok (.aload_n 0, 1) := by decide +kernel
theorem dX6_firstReadyPilot_19 : decode cX6_firstReadyPilot 19 = .ok (.getfield 26, 3) := by decide +kernel
theorem dX6_firstReadyPilot_22 : decode cX6_firstReadyPilot 22 = .ok (.iload_n 2, 1) := by decide +kernel
theorem dX6_firstReadyPilot_23 : decode cX6_firstReadyPilot 23 = .ok (.aload_n 0, 1) := by decide +kernel
theorem dX6_firstReadyPilot_24 : decode cX6_firstReadyPilot 24 = .ok (.getfield 44, 3) := by decide +kernel
theorem dX6_firstReadyPilot_27 : decode cX6_firstReadyPilot 27 = .ok (.aload_n 0, 1) := by decide +kernel
theorem dX6_firstReadyPilot_28 : decode cX6_firstReadyPilot 28 = .ok (.getfield 26, 3) := by decide +kernel
theorem dX6_firstReadyPilot_31 : decode cX6_firstReadyPilot 31 = .ok (.invokevirtual 62, 3) := by decide +kernel
theorem dX6_firstReadyPilot_34 : decode cX6_firstReadyPilot 34 = .ok (.invokevirtual 172, 3) := by decide +kernel
theorem dX6_firstReadyPilot_37 : decode cX6_firstReadyPilot 37 = .ok (.ifCond .eq 5, 3) := by decide +kernel
theorem dX6_firstReadyPilot_40 : decode cX6_firstReadyPilot 40 = .ok (.iload_n 2, 1) := by decide +kernel
theorem dX6_firstReadyPilot_41 : decode cX6_firstReadyPilot 41 = .ok (.ireturn, 1) := by decide +kernel
theorem dX6_firstReadyPilot_42 : decode cX6_firstReadyPilot 42 = .ok (.iinc 1 1, 3) := by decide +kernel
theorem dX6_firstReadyPilot_45 : decode cX6_firstReadyPilot 45 = .ok (.goto (-43), 3) := by decide +kernel
theorem dX6_firstReadyPilot_48 : decode cX6_firstReadyPilot 48 = .ok (.iconst (-1), 1) := by decide +kernel
theorem dX6_firstReadyPilot_49 : decode cX6_firstReadyPilot 49 = .ok (.ireturn, 1) := by decide +kernel
theorem dX6_lowestOf_0 : decode cX6_lowestOf 0 = .ok (.iconst 0, 1) := by decide +kernel
theorem dX6_lowestOf_1 : decode cX6_lowestOf 1 = .ok (.istore_n 2, 1) := by decide +kernel
theorem dX6_lowestOf_2 : decode cX6_lowestOf 2 = .ok (.iload_n 1, 1) := by decide +kernel
theorem dX6_lowestOf_3 : decode cX6_lowestOf 3 = .ok (.istore_n 3, 1) := by decide +kernel
theorem dX6_lowestOf_4 : decode cX6_lowestOf 4 = .ok (.iconst 0, 1) := by decide +kernel
theorem dX6_lowestOf_5 : decode cX6_lowestOf 5 = .ok (.istore 4, 2) := by decide +kernel
theorem dX6_lowestOf_7 : decode cX6_lowestOf 7 = .ok (.iload 4, 2) := by decide +kernel
theorem dX6_lowestOf_9 : decode cX6_lowestOf 9 = .ok (.bipush 6, 2) := by decide +kernel
theorem dX6_lowestOf_11 : decode cX6_lowestOf 11 = .ok (.if_icmp .ge 32, 3) := by decide +kernel
theorem dX6_lowestOf_14 : decode cX6_lowestOf 14 = .ok (.iload_n 3, 1) := by decide +kernel
theorem dX6_lowestOf_15 : decode cX6_lowestOf 15 = .ok (.ifCond .le 28, 3) := by decide +kernel
theorem dX6_lowestOf_18 : decode cX6_lowestOf 18 = .ok (.iload_n 0, 1) := by decide +kernel
theorem dX6_lowestOf_19 : decode cX6_lowestOf 19 = .ok (.iconst 1, 1) := by decide +kernel
theorem dX6_lowestOf_20 : decode cX6_lowestOf 20 = .ok (.iload 4, 2) := by decide +kernel
theorem dX6_lowestOf_22 : decode cX6_lowestOf 22 = .ok (.ishl, 1) := by decide +kernel
theorem dX6_lowestOf_23 : decode cX6_lowestOf 23 = .ok (.iand, 1) := by decide +kernel
theorem dX6_lowestOf_24 : decode cX6_lowestOf 24 = .ok (.ifCond .eq 13, 3) := by decide +kernel
theorem dX6_lowestOf_27 : decode cX6_lowestOf 27 = .ok (.iload_n 2, 1) := by decide +kernel
theorem dX6_lowestOf_28 : decode cX6_lowestOf 28 = .ok (.iconst 1, 1) := by decide +kernel
theorem dX6_lowestOf_29 : decode cX6_lowestOf 29 = .ok (.iload 4, 2) := by decide +kernel
theorem dX6_lowestOf_31 : decode cX6_lowestOf 31 = .ok (.ishl, 1) := by decide +kernel
theorem dX6_lowestOf_32 : decode cX6_lowestOf 32 = .ok (.ior, 1) := by decide +kernel
theorem dX6_lowestOf_33 : decode cX6_lowestOf 33 = .ok (.istore_n 2, 1) := by decide +kernel
theorem dX6_lowestOf_34 : decode cX6_lowestOf 34 = .ok (.iinc 3 (-1), 3) := by decide +kernel
theorem dX6_lowestOf_37 : decode cX6_lowestOf 37 = .ok (.iinc 4 1, 3) := by decide +kernel
theorem dX6_lowestOf_40 : decode cX6_lowestOf 40 = .ok (.goto (-33), 3) := by decide +kernel
theorem dX6_lowestOf_43 : decode cX6_lowestOf 43 = .ok (.iload_n 3, 1) := by decide +kernel
theorem dX6_lowestOf_44 : decode cX6_lowestOf 44 = .ok (.ifCond .ne 7, 3) := by decide +kernel
theorem dX6_lowestOf_47 : decode cX6_lowestOf 47 = .ok (.iload_n 2, 1) := by decide +kernel
theorem dX6_lowestOf_48 : decode cX6_lowestOf 48 = .ok (.goto 4, 3) := by decide +kernel
theorem dX6_lowestOf_51 : decode cX6_lowestOf 51 = .ok (.iconst 0, 1) := by decide +kernel
theorem dX6_lowestOf_52 : decode cX6_lowestOf 52 = .ok (.ireturn, 1) := by decide +kernel
theorem dX6_payPilot_0 : decode cX6_payPilot 0 = .ok (.aload_n 1, 1) := by decide +kernel
theorem dX6_payPilot_1 : decode cX6_payPilot 1 = .ok (.dup, 1) := by decide +kernel
theorem dX6_payPilot_2 : decode cX6_payPilot 2 = .ok (.getfield 211, 3) := by decide +kernel
theorem dX6_payPilot_5 : decode cX6_payPilot 5 = .ok (.bipush 50, 2) := by decide +kernel
theorem dX6_payPilot_7 : decode cX6_payPilot 7 = .ok (.iadd, 1) := by decide +kernel
theorem dX6_payPilot_8 : decode cX6_payPilot 8 = .ok (.putfield 211, 3) := by decide +kernel
theorem dX6_payPilot_11 : decode cX6_payPilot 11 = .ok (.aload_n 0, 1) := by decide +kernel
theorem dX6_payPilot_12 : decode cX6_payPilot 12 = .ok (.getfield 19, 3) := by decide +kernel
theorem dX6_payPilot_15 : decode cX6_payPilot 15 = .ok (.getfield 214, 3) := by decide +kernel
theorem dX6_payPilot_18 : decode cX6_payPilot 18 = .ok (.iload_n 2, 1) := by decide +kernel
theorem dX6_payPilot_19 : decode cX6_payPilot 19 = .ok (.dup2, 1) := by decide +kernel
theorem dX6_payPilot_20 : decode cX6_payPilot 20 = .ok (.iaload, 1) := by decide +kernel
theorem dX6_payPilot_21 : decode cX6_payPilot 21 = .ok (.bipush 50, 2) := by decide +kernel
theorem dX6_payPilot_23 : decode cX6_payPilot 23 = .ok (.iadd, 1) := by decide +kernel
theorem dX6_payPilot_24 : decode cX6_payPilot 24 = .ok (.iastore, 1) := by decide +kernel
theorem dX6_payPilot_25 : decode cX6_payPilot 25 = .ok (.return_, 1) := by decide +kernel
theorem dX6_payTugs_0 : decode cX6_payTugs 0 = .ok (.aload_n 1, 1) := by decide +kernel
theorem dX6_payTugs_1 : decode cX6_payTugs 1 = .ok (.dup, 1) := by decide +kernel
theorem dX6_payTugs_2 : decode cX6_payTugs 2 = .ok (.getfield 211, 3) := by decide +kernel
theorem dX6_payTugs_5 : decode cX6_payTugs 5 = .ok (.bipush 30, 2) := by decide +kernel
theorem dX6_payTugs_7 : decode cX6_payTugs 7 = .ok (.aload_n 1, 1) := by decide +kernel
theorem dX6_payTugs_8 : decode cX6_payTugs 8 = .ok (.getfield 225, 3) := by decide +kernel
theorem dX6_payTugs_11 : decode cX6_payTugs 11 = .ok (.imul, 1) := by decide +kernel
theorem dX6_payTugs_12 : decode cX6_payTugs 12 = .ok (.iadd, 1) := by decide +kernel
theorem dX6_payTugs_13 : decode cX6_payTugs 13 = .ok (.putfield 211, 3) := by decide +kernel
theorem dX6_payTugs_16 : decode cX6_payTugs 16 = .ok (.aload_n 0, 1) := by decide +kernel
theorem dX6_payTugs_17 : decode cX6_payTugs 17 = .ok (.dup, 1) := by decide +kernel
theorem dX6_payTugs_18 : decode cX6_payTugs 18 = .ok (.getfield 48, 3) := by decide +kernel
theorem dX6_payTugs_21 : decode cX6_payTugs 21 = .ok (.bipush 30, 2) := by decide +kernel
theorem dX6_payTugs_23 : decode cX6_payTugs 23 = .ok (.aload_n 1, 1) := by decide +kernel
theorem dX6_payTugs_24 : decode cX6_payTugs 24 = .ok (.getfield 225, 3) := by decide +kernel
theorem dX6_payTugs_27 : decode cX6_payTugs 27 = .ok (.imul, 1) := by decide +kernel
theorem dX6_payTugs_28 : decode cX6_payTugs 28 = .ok (.iadd, 1) := by decide +kernel
theorem dX6_payTugs_29 : decode cX6_payTugs 29 = .ok (.putfield 48, 3) := by decide +kernel
theorem dX6_payTugs_32 : decode cX6_payTugs 32 = .ok (.return_, 1) := by decide +kernel
theorem dX6_payPort_0 : decode cX6_payPort 0 = .ok (.aload_n 1, 1) := by decide +kernel
theorem dX6_payPort_1 : decode cX6_payPort 1 = .ok (.dup, 1) := by decide +kernel
theorem dX6_payPort_2 : decode cX6_payPort 2 = .ok (.getfield 211, 3) := by decide +kernel
theorem dX6_payPort_5 : decode cX6_payPort 5 = .ok (.iload_n 2, 1) := by decide +kernel
theorem dX6_payPort_6 : decode cX6_payPort 6 = .ok (.iadd, 1) := by decide +kernel
theorem dX6_payPort_7 : decode cX6_payPort 7 = .ok (.putfield 211, 3) := by decide +kernel
theorem dX6_payPort_10 : decode cX6_payPort 10 = .ok (.aload_n 0, 1) := by decide +kernel
theorem dX6_payPort_11 : decode cX6_payPort 11 = .ok (.dup, 1) := by decide +kernel
theorem dX6_payPort_12 : decode cX6_payPort 12 = .ok (.getfield 51, 3) := by decide +kernel
theorem dX6_payPort_15 : decode cX6_payPort 15 = .ok (.iload_n 2, 1) := by decide +kernel
theorem dX6_payPort_16 : decode cX6_payPort 16 = .ok (.iadd, 1) := by decide +kernel
theorem dX6_payPort_17 : decode cX6_payPort 17 = .ok (.putfield 51, 3) := by decide +kernel
theorem dX6_payPort_20 : decode cX6_payPort 20 = .ok (.return_, 1) := by decide +kernel
theorem dJxa1e45_init_da8c8_0 : decode cJxa1e45_init_da8c8 0 = .ok (.aload_n 0, 1) := by decide +kernel
theorem dJxa1e45_init_da8c8_1 : decode cJxa1e45_init_da8c8 1 = .ok (.invokespecial 1, 3) := by decide +kernel
theorem dJxa1e45_init_da8c8_4 : decode cJxa1e45_init_da8c8 4 = .ok (.return_, 1) := by decide +kernel
theorem dJxc12de_init_da8c8_0 : decode cJxc12de_init_da8c8 0 = .ok (.aload_n 0, 1) := by decide +kernel
theorem dJxc12de_init_da8c8_1 : decode cJxc12de_init_da8c8 1 = .ok (.invokespecial 1, 3) := by decide +kernel
theorem dJxc12de_init_da8c8_4 : decode cJxc12de_init_da8c8 4 = .ok (.aload_n 0, 1) := by decide +kernel
theorem dJxc12de_init_da8c8_5 : decode cJxc12de_init_da8c8 5 = .ok (.iconst 0, 1) := by decide +kernel
theorem dJxc12de_init_da8c8_6 : decode cJxc12de_init_da8c8 6 = .ok (.putfield 7, 3) := by decide +kernel
theorem dJxc12de_init_da8c8_9 : decode cJxc12de_init_da8c8 9 = .ok (.return_, 1) := by decide +kernel
theorem dJx4a65c_init_da8c8_0 : decode cJx4a65c_init_da8c8 0 = .ok (.aload_n 0, 1) := by decide +kernel
theorem dJx4a65c_init_da8c8_1 : decode cJx4a65c_init_da8c8 1 = .ok (.invokespecial 1, 3) := by decide +kernel
theorem dJx4a65c_init_da8c8_4 : decode cJx4a65c_init_da8c8 4 = .ok (.aload_n 0, 1) := by decide +kernel
theorem dJx4a65c_init_da8c8_5 : decode cJx4a65c_init_da8c8 5 = .ok (.getstatic 39, 3) := by decide +kernel
theorem dJx4a65c_init_da8c8_8 : decode cJx4a65c_init_da8c8 8 = .ok (.putfield 9, 3) := by decide +kernel
theorem dJx4a65c_init_da8c8_11 : decode cJx4a65c_init_da8c8 11 = .ok (.return_, 1) := by decide +kernel
theorem dJx4a65c_grow_92f84_0 : decode cJx4a65c_grow_92f84 0 = .ok (.aload_n 0, 1) := by decide +kernel
theorem dJx4a65c_grow_92f84_1 : decode cJx4a65c_grow_92f84 1 = .ok (.getfield 9, 3) := by decide +kernel
theorem dJx4a65c_grow_92f84_4 : decode cJx4a65c_grow_92f84 4 = .ok (.arraylength, 1) := by decide +kernel
theorem dJx4a65c_grow_92f84_5 : decode cJx4a65c_grow_92f84 5 = .ok (.istore_n 2, 1) := by decide +kernel
theorem dJx4a65c_grow_92f84_6 : decode cJx4a65c_grow_92f84 6 = .ok (.iload_n 2, 1) := by decide +kernel
theorem dJx4a65c_grow_92f84_7 : decode cJx4a65c_grow_92f84 7 = .ok (.ifCond .gt 13, 3) := by decide +kernel
theorem dJx4a65c_grow_92f84_10 : decode cJx4a65c_grow_92f84 10 = .ok (.aload_n 0, 1) := by decide +kernel
theorem dJx4a65c_grow_92f84_11 : decode cJx4a65c_grow_92f84 11 = .ok (.getfield 9, 3) := by decide +kernel
theorem dJx4a65c_grow_92f84_14 : decode cJx4a65c_grow_92f84 14 = .ok (.getstatic 39, 3) := by decide +kernel
theorem dJx4a65c_grow_92f84_17 : decode cJx4a65c_grow_92f84 17 = .ok (.if_acmp .eq 28, 3) := by decide +kernel
theorem dJx4a65c_grow_92f84_20 : decode cJx4a65c_grow_92f84 20 = .ok (.iload_n 2, 1) := by decide +kernel
theorem dJx4a65c_grow_92f84_21 : decode cJx4a65c_grow_92f84 21 = .ok (.iload_n 1, 1) := by decide +kernel
theorem dJx4a65c_grow_92f84_22 : decode cJx4a65c_grow_92f84 22 = .ok (.iload_n 2, 1) := by decide +kernel
theorem dJx4a65c_grow_92f84_23 : decode cJx4a65c_grow_92f84 23 = .ok (.isub, 1) := by decide +kernel
theorem dJx4a65c_grow_92f84_24 : decode cJx4a65c_grow_92f84 24 = .ok (.iload_n 2, 1) := by decide +kernel
theorem dJx4a65c_grow_92f84_25 : decode cJx4a65c_grow_92f84 25 = .ok (.iconst 1, 1) := by decide +kernel
theorem dJx4a65c_grow_92f84_26 : decode cJx4a65c_grow_92f84 26 = .ok (.ishr, 1) := by decide +kernel
theorem dJx4a65c_grow_92f84_27 : decode cJx4a65c_grow_92f84 27 = .ok (.invokestatic 73, 3) := by decide +kernel
theorem dJx4a65c_grow_92f84_30 : decode cJx4a65c_grow_92f84 30 = .ok (.istore_n 3, 1) := by decide +kernel
theorem dJx4a65c_grow_92f84_31 : decode cJx4a65c_grow_92f84 31 = .ok (.aload_n 0, 1) := by decide +kernel
theorem dJx4a65c_grow_92f84_32 : decode cJx4a65c_grow_92f84 32 = .ok (.aload_n 0, 1) := by decide +kernel
theorem dJx4a65c_grow_92f84_33 : decode cJx4a65c_grow_92f84 33 = .ok (.getfield 9, 3) := by decide +kernel
theorem dJx4a65c_grow_92f84_36 : decode cJx4a65c_grow_92f84 36 = .ok (.iload_n 3, 1) := by decide +kernel
theorem dJx4a65c_grow_92f84_37 : decode cJx4a65c_grow_92f84 37 = .ok (.invokestatic 66, 3) := by decide +kernel
theorem dJx4a65c_grow_92f84_40 : decode cJx4a65c_grow_92f84 40 = .ok (.dup_x1, 1) := by decide +kernel
theorem dJx4a65c_grow_92f84_41 : decode cJx4a65c_grow_92f84 41 = .ok (.putfield 9, 3) := by decide +kernel
theorem dJx4a65c_grow_92f84_44 : decode cJx4a65c_grow_92f84 44 = .ok (.areturn, 1) := by decide +kernel
theorem dJx4a65c_grow_92f84_45 : decode cJx4a65c_grow_92f84 45 = .ok (.aload_n 0, 1) := by decide +kernel
theorem dJx4a65c_grow_92f84_46 : decode cJx4a65c_grow_92f84 46 = .ok (.bipush 10, 2) := by decide +kernel
theorem dJx4a65c_grow_92f84_48 : decode cJx4a65c_grow_92f84 48 = .ok (.iload_n 1, 1) := by decide +kernel
theorem dJx4a65c_grow_92f84_49 : decode cJx4a65c_grow_92f84 49 = .ok (.invokestatic 79, 3) := by decide +kernel
theorem dJx4a65c_grow_92f84_52 : decode cJx4a65c_grow_92f84 52 = .ok (.anewarray 7, 3) := by decide +kernel
theorem dJx4a65c_grow_92f84_55 : decode cJx4a65c_grow_92f84 55 = .ok (.dup_x1, 1) := by decide +kernel
theorem dJx4a65c_grow_92f84_56 : decode cJx4a65c_grow_92f84 56 = .ok (.putfield 9, 3) := by decide +kernel
theorem dJx4a65c_grow_92f84_59 : decode cJx4a65c_grow_92f84 59 = .ok (.areturn, 1) := by decide +kernel
theorem dJx4a65c_grow_d5877_0 : decode cJx4a65c_grow_d5877 0 = .ok (.aload_n 0, 1) := by decide +kernel
theorem dJx4a65c_grow_d5877_1 : decode cJx4a65c_grow_d5877 1 = .ok (.aload_n 0, 1) := by decide +kernel
theorem dJx4a65c_grow_d5877_2 : decode cJx4a65c_grow_d5877 2 = .ok (.getfield 48, 3) := by decide +kernel
theorem dJx4a65c_grow_d5877_5 : decode cJx4a65c_grow_d5877 5 = .ok (.iconst 1, 1) := by decide +kernel
theorem dJx4a65c_grow_d5877_6 : decode cJx4a65c_grow_d5877 6 = .ok (.iadd, 1) := by decide +kernel
theorem dJx4a65c_grow_d5877_7 : decode cJx4a65c_grow_d5877 7 = .ok (.invokevirtual 69, 3) := by decide +kernel
theorem dJx4a65c_grow_d5877_10 : decode cJx4a65c_grow_d5877 10 = .ok (.areturn, 1) := by decide +kernel
theorem dJx4a65c_size_8abf5_0 : decode cJx4a65c_size_8abf5 0 = .ok (.aload_n 0, 1) := by decide +kernel
theorem dJx4a65c_size_8abf5_1 : decode cJx4a65c_size_8abf5 1 = .ok (.getfield 48, 3) := by decide +kernel
theorem dJx4a65c_size_8abf5_4 : decode cJx4a65c_size_8abf5 4 = .ok (.ireturn, 1) := by decide +kernel
theorem dJx4a65c_elementData_915e3_0 : decode cJx4a65c_elementData_915e3 0 = .ok (.aload_n 0, 1) := by decide +kernel
theorem dJx4a65c_elementData_915e3_1 : decode cJx4a65c_elementData_915e3 1 = .ok (.getfield 9, 3) := by decide +kernel
theorem dJx4a65c_elementData_915e3_4 : decode cJx4a65c_elementData_915e3 4 = .ok (.iload_n 1, 1) := by decide +kernel
theorem dJx4a65c_elementData_915e3_5 : decode cJx4a65c_elementData_915e3 5 = .ok (.aaload, 1) := by decide +kernel
theorem dJx4a65c_elementData_915e3_6 : decode cJx4a65c_elementData_915e3 6 = .ok (.areturn, 1) := by decide +kernel
theorem dJx4a65c_get_915e3_0 : decode cJx4a65c_get_915e3 0 = .ok (.iload_n 1, 1) := by decide +kernel
theorem dJx4a65c_get_915e3_1 : decode cJx4a65c_get_915e3 1 = .ok (.aload_n 0, 1) := by decide +kernel
theorem dJx4a65c_get_915e3_2 : decode cJx4a65c_get_915e3 2 = .ok (.getfield 48, 3) := by decide +kernel
theorem dJx4a65c_get_915e3_5 : decode cJx4a65c_get_915e3 5 = .ok (.invokestatic 118, 3) := by decide +kernel
theorem dJx4a65c_get_915e3_8 : decode cJx4a65c_get_915e3 8 = .ok (.pop, 1) := by decide +kernel
theorem dJx4a65c_get_915e3_9 : decode cJx4a65c_get_915e3 9 = .ok (.aload_n 0, 1) := by decide +kernel
theorem dJx4a65c_get_915e3_10 : decode cJx4a65c_get_915e3 10 = .ok (.iload_n 1, 1) := by decide +kernel
theorem dJx4a65c_get_915e3_11 : decode cJx4a65c_get_915e3 11 = .ok (.invokevirtual 123, 3) := by decide +kernel
theorem dJx4a65c_get_915e3_14 : decode cJx4a65c_get_915e3 14 = .ok (.areturn, 1) := by decide +kernel
theorem dJx4a65c_add_72be8_0 : decode cJx4a65c_add_72be8 0 = .ok (.iload_n 3, 1) := by decide +kernel
theorem dJx4a65c_add_72be8_1 : decode cJx4a65c_add_72be8 1 = .ok (.aload_n 2, 1) := by decide +kernel
theorem dJx4a65c_add_72be8_2 : decode cJx4a65c_add_72be8 2 = .ok (.arraylength, 1) := by decide +kernel
theorem dJx4a65c_add_72be8_3 : decode cJx4a65c_add_72be8 3 = .ok (.if_icmp .ne 8, 3) := by decide +kernel
theorem dJx4a65c_add_72be8_6 : decode cJx4a65c_add_72be8 6 = .ok (.aload_n 0, 1) := by decide +kernel
theorem dJx4a65c_add_72be8_7 : decode cJx4a65c_add_72be8 7 = .ok (.invokevirtual 129, 3) := by decide +kernel
theorem dJx4a65c_add_72be8_10 : decode cJx4a65c_add_72be8 10 = .ok (.astore_n 2, 1) := by decide +kernel
theorem dJx4a65c_add_72be8_11 : decode cJx4a65c_add_72be8 11 = .ok (.aload_n 2, 1) := by decide +kernel
theorem dJx4a65c_add_72be8_12 : decode cJx4a65c_add_72be8 12 = .ok (.iload_n 3, 1) := by decide +kernel
theorem dJx4a65c_add_72be8_13 : decode cJx4a65c_add_72be8 13 = .ok (.aload_n 1, 1) := by decide +kernel
theorem dJx4a65c_add_72be8_14 : decode cJx4a65c_add_72be8 14 = .ok (.aastore, 1) := by decide +kernel
theorem dJx4a65c_add_72be8_15 : decode cJx4a65c_add_72be8 15 = .ok (.aload_n 0, 1) := by decide +kernel
theorem dJx4a65c_add_72be8_16 : decode cJx4a65c_add_72be8 16 = .ok (.iload_n 3, 1) := by decide +kernel
theorem dJx4a65c_add_72be8_17 : decode cJx4a65c_add_72be8 17 = .ok (.iconst 1, 1) := by decide +kernel
theorem dJx4a65c_add_72be8_18 : decode cJx4a65c_add_72be8 18 = .ok (.iadd, 1) := by decide +kernel
theorem dJx4a65c_add_72be8_19 : decode cJx4a65c_add_72be8 19 = .ok (.putfield 48, 3) := by decide +kernel
theorem dJx4a65c_add_72be8_22 : decode cJx4a65c_add_72be8 22 = .ok (.return_, 1) := by decide +kernel
theorem dJx4a65c_add_9ea2d_0 : decode cJx4a65c_add_9ea2d 0 = .ok (.aload_n 0, 1) := by decide +kernel
theorem dJx4a65c_add_9ea2d_1 : decode cJx4a65c_add_9ea2d 1 = .ok (.dup, 1) := by decide +kernel
theorem dJx4a65c_add_9ea2d_2 : decode cJx4a65c_add_9ea2d 2 = .ok (.getfield 63, 3) := by decide +kernel
theorem dJx4a65c_add_9ea2d_5 : decode cJx4a65c_add_9ea2d 5 = .ok (.iconst 1, 1) := by decide +kernel
theorem dJx4a65c_add_9ea2d_6 : decode cJx4a65c_add_9ea2d 6 = .ok (.iadd, 1) := by decide +kernel
theorem dJx4a65c_add_9ea2d_7 : decode cJx4a65c_add_9ea2d 7 = .ok (.putfield 63, 3) := by decide +kernel
theorem dJx4a65c_add_9ea2d_10 : decode cJx4a65c_add_9ea2d 10 = .ok (.aload_n 0, 1) := by decide +kernel
theorem dJx4a65c_add_9ea2d_11 : decode cJx4a65c_add_9ea2d 11 = .ok (.aload_n 1, 1) := by decide +kernel
theorem dJx4a65c_add_9ea2d_12 : decode cJx4a65c_add_9ea2d 12 = .ok (.aload_n 0, 1) := by decide +kernel
theorem dJx4a65c_add_9ea2d_13 : decode cJx4a65c_add_9ea2d 13 = .ok (.getfield 9, 3) := by decide +kernel
theorem dJx4a65c_add_9ea2d_16 : decode cJx4a65c_add_9ea2d 16 = .ok (.aload_n 0, 1) := by decide +kernel
theorem dJx4a65c_add_9ea2d_17 : decode cJx4a65c_add_9ea2d 17 = .ok (.getfield 48, 3) := by decide +kernel
theorem dJx4a65c_add_9ea2d_20 : decode cJx4a65c_add_9ea2d 20 = .ok (.invokevirtual 131, 3) := by decide +kernel
theorem dJx4a65c_add_9ea2d_23 : decode cJx4a65c_add_9ea2d 23 = .ok (.iconst 1, 1) := by decide +kernel
theorem dJx4a65c_add_9ea2d_24 : decode cJx4a65c_add_9ea2d 24 = .ok (.ireturn, 1) := by decide +kernel
theorem dJx4a65c_add_7a177_0 : decode cJx4a65c_add_7a177 0 = .ok (.aload_n 0, 1) := by decide +kernel
theorem dJx4a65c_add_7a177_1 : decode cJx4a65c_add_7a177 1 = .ok (.iload_n 1, 1) := by decide +kernel
theorem dJx4a65c_add_7a177_2 : decode cJx4a65c_add_7a177 2 = .ok (.invokevirtual 135, 3) := by decide +kernel
theorem dJx4a65c_add_7a177_5 : decode cJx4a65c_add_7a177 5 = .ok (.aload_n 0, 1) := by decide +kernel
theorem dJx4a65c_add_7a177_6 : decode cJx4a65c_add_7a177 6 = .ok (.dup, 1) := by decide +kernel
theorem dJx4a65c_add_7a177_7 : decode cJx4a65c_add_7a177 7 = .ok (.getfield 63, 3) := by decide +kernel
theorem dJx4a65c_add_7a177_10 : decode cJx4a65c_add_7a177 10 = .ok (.iconst 1, 1) := by decide +kernel
theorem dJx4a65c_add_7a177_11 : decode cJx4a65c_add_7a177 11 = .ok (.iadd, 1) := by decide +kernel
theorem dJx4a65c_add_7a177_12 : decode cJx4a65c_add_7a177 12 = .ok (.putfield 63, 3) := by decide +kernel
theorem dJx4a65c_add_7a177_15 : decode cJx4a65c_add_7a177 15 = .ok (.aload_n 0, 1) := by decide +kernel
theorem dJx4a65c_add_7a177_16 : decode cJx4a65c_add_7a177 16 = .ok (.getfield 48, 3) := by decide +kernel
theorem dJx4a65c_add_7a177_19 : decode cJx4a65c_add_7a177 19 = .ok (.dup, 1) := by decide +kernel
theorem dJx4a65c_add_7a177_20 : decode cJx4a65c_add_7a177 20 = .ok (.istore_n 3, 1) := by decide +kernel
theorem dJx4a65c_add_7a177_21 : decode cJx4a65c_add_7a177 21 = .ok (.aload_n 0, 1) := by decide +kernel
theorem dJx4a65c_add_7a177_22 : decode cJx4a65c_add_7a177 22 = .ok (.getfield 9, 3) := by decide +kernel
theorem dJx4a65c_add_7a177_25 : decode cJx4a65c_add_7a177 25 = .ok (.dup, 1) := by decide +kernel
theorem dJx4a65c_add_7a177_26 : decode cJx4a65c_add_7a177 26 = .ok (.astore 4, 2) := by decide +kernel
theorem dJx4a65c_add_7a177_28 : decode cJx4a65c_add_7a177 28 = .ok (.arraylength, 1) := by decide +kernel
theorem dJx4a65c_add_7a177_29 : decode cJx4a65c_add_7a177 29 = .ok (.if_icmp .ne 9, 3) := by decide +kernel
theorem dJx4a65c_add_7a177_32 : decode cJx4a65c_add_7a177 32 = .ok (.aload_n 0, 1) := by decide +kernel
theorem dJx4a65c_add_7a177_33 : decode cJx4a65c_add_7a177 33 = .ok (.invokevirtual 129, 3) := by decide +kernel
theorem dJx4a65c_add_7a177_36 : decode cJx4a65c_add_7a177 36 = .ok (.astore 4, 2) := by decide +kernel
theorem dJx4a65c_add_7a177_38 : decode cJx4a65c_add_7a177 38 = .ok (.aload 4, 2) := by decide +kernel
theorem dJx4a65c_add_7a177_40 : decode cJx4a65c_add_7a177 40 = .ok (.iload_n 1, 1) := by decide +kernel
theorem dJx4a65c_add_7a177_41 : decode cJx4a65c_add_7a177 41 = .ok (.aload 4, 2) := by decide +kernel
theorem dJx4a65c_add_7a177_43 : decode cJx4a65c_add_7a177 43 = .ok (.iload_n 1, 1) := by decide +kernel
theorem dJx4a65c_add_7a177_44 : decode cJx4a65c_add_7a177 44 = .ok (.iconst 1, 1) := by decide +kernel
theorem dJx4a65c_add_7a177_45 : decode cJx4a65c_add_7a177 45 = .ok (.iadd, 1) := by decide +kernel
theorem dJx4a65c_add_7a177_46 : decode cJx4a65c_add_7a177 46 = .ok (.iload_n 3, 1) := by decide +kernel
theorem dJx4a65c_add_7a177_47 : decode cJx4a65c_add_7a177 47 = .ok (.iload_n 1, 1) := by decide +kernel
theorem dJx4a65c_add_7a177_48 : decode cJx4a65c_add_7a177 48 = .ok (.isub, 1) := by decide +kernel
theorem dJx4a65c_add_7a177_49 : decode cJx4a65c_add_7a177 49 = .ok (.invokestatic 112, 3) := by decide +kernel
theorem dJx4a65c_add_7a177_52 : decode cJx4a65c_add_7a177 52 = .ok (.aload 4, 2) := by decide +kernel
theorem dJx4a65c_add_7a177_54 : decode cJx4a65c_add_7a177 54 = .ok (.iload_n 1, 1) := by decide +kernel
theorem dJx4a65c_add_7a177_55 : decode cJx4a65c_add_7a177 55 = .ok (.aload_n 2, 1) := by decide +kernel
theorem dJx4a65c_add_7a177_56 : decode cJx4a65c_add_7a177 56 = .ok (.aastore, 1) := by decide +kernel
theorem dJx4a65c_add_7a177_57 : decode cJx4a65c_add_7a177 57 = .ok (.aload_n 0, 1) := by decide +kernel
theorem dJx4a65c_add_7a177_58 : decode cJx4a65c_add_7a177 58 = .ok (.iload_n 3, 1) := by decide +kernel
theorem dJx4a65c_add_7a177_59 : decode cJx4a65c_add_7a177 59 = .ok (.iconst 1, 1) := by decide +kernel
theorem dJx4a65c_add_7a177_60 : decode cJx4a65c_add_7a177 60 = .ok (.iadd, 1) := by decide +kernel
theorem dJx4a65c_add_7a177_61 : decode cJx4a65c_add_7a177 61 = .ok (.putfield 48, 3) := by decide +kernel
theorem dJx4a65c_add_7a177_64 : decode cJx4a65c_add_7a177 64 = .ok (.return_, 1) := by decide +kernel
theorem dJx4a65c_remove_915e3_0 : decode cJx4a65c_remove_915e3 0 = .ok (.iload_n 1, 1) := by decide +kernel
theorem dJx4a65c_remove_915e3_1 : decode cJx4a65c_remove_915e3 1 = .ok (.aload_n 0, 1) := by decide +kernel
theorem dJx4a65c_remove_915e3_2 : decode cJx4a65c_remove_915e3 2 = .ok (.getfield 48, 3) := by decide +kernel
theorem dJx4a65c_remove_915e3_5 : decode cJx4a65c_remove_915e3 5 = .ok (.invokestatic 118, 3) := by decide +kernel
theorem dJx4a65c_remove_915e3_8 : decode cJx4a65c_remove_915e3 8 = .ok (.pop, 1) := by decide +kernel
theorem dJx4a65c_remove_915e3_9 : decode cJx4a65c_remove_915e3 9 = .ok (.aload_n 0, 1) := by decide +kernel
theorem dJx4a65c_remove_915e3_10 : decode cJx4a65c_remove_915e3 10 = .ok (.getfield 9, 3) := by decide +kernel
theorem dJx4a65c_remove_915e3_13 : decode cJx4a65c_remove_915e3 13 = .ok (.astore_n 2, 1) := by decide +kernel
theorem dJx4a65c_remove_915e3_14 : decode cJx4a65c_remove_915e3 14 = .ok (.aload_n 2, 1) := by decide +kernel
theorem dJx4a65c_remove_915e3_15 : decode cJx4a65c_remove_915e3 15 = .ok (.iload_n 1, 1) := by decide +kernel
theorem dJx4a65c_remove_915e3_16 : decode cJx4a65c_remove_915e3 16 = .ok (.aaload, 1) := by decide +kernel
theorem dJx4a65c_remove_915e3_17 : decode cJx4a65c_remove_915e3 17 = .ok (.astore_n 3, 1) := by decide +kernel
theorem dJx4a65c_remove_915e3_18 : decode cJx4a65c_remove_915e3 18 = .ok (.aload_n 0, 1) := by decide +kernel
theorem dJx4a65c_remove_915e3_19 : decode cJx4a65c_remove_915e3 19 = .ok (.aload_n 2, 1) := by decide +kernel
theorem dJx4a65c_remove_915e3_20 : decode cJx4a65c_remove_915e3 20 = .ok (.iload_n 1, 1) := by decide +kernel
theorem dJx4a65c_remove_915e3_21 : decode cJx4a65c_remove_915e3 21 = .ok (.invokevirtual 144, 3) := by decide +kernel
theorem dJx4a65c_remove_915e3_24 : decode cJx4a65c_remove_915e3 24 = .ok (.aload_n 3, 1) := by decide +kernel
theorem dJx4a65c_remove_915e3_25 : decode cJx4a65c_remove_915e3 25 = .ok (.areturn, 1) := by decide +kernel
theorem dJx4a65c_fastRemove_b59b0_0 : decode cJx4a65c_fastRemove_b59b0 0 = .ok (.aload_n 0, 1) := by decide +kernel
theorem dJx4a65c_fastRemove_b59b0_1 : decode cJx4a65c_fastRemove_b59b0 1 = .ok (.dup, 1) := by decide +kernel
theorem dJx4a65c_fastRemove_b59b0_2 : decode cJx4a65c_fastRemove_b59b0 2 = .ok (.getfield 63, 3) := by decide +kernel
theorem dJx4a65c_fastRemove_b59b0_5 : decode cJx4a65c_fastRemove_b59b0 5 = .ok (.iconst 1, 1) := by decide +kernel
theorem dJx4a65c_fastRemove_b59b0_6 : decode cJx4a65c_fastRemove_b59b0 6 = .ok (.iadd, 1) := by decide +kernel
theorem dJx4a65c_fastRemove_b59b0_7 : decode cJx4a65c_fastRemove_b59b0 7 = .ok (.putfield 63, 3) := by decide +kernel
theorem dJx4a65c_fastRemove_b59b0_10 : decode cJx4a65c_fastRemove_b59b0 10 = .ok (.aload_n 0, 1) := by decide +kernel
theorem dJx4a65c_fastRemove_b59b0_11 : decode cJx4a65c_fastRemove_b59b0 11 = .ok (.getfield 48, 3) := by decide +kernel
theorem dJx4a65c_fastRemove_b59b0_14 : decode cJx4a65c_fastRemove_b59b0 14 = .ok (.iconst 1, 1) := by decide +kernel
theorem dJx4a65c_fastRemove_b59b0_15 : decode cJx4a65c_fastRemove_b59b0 15 = .ok (.isub, 1) := by decide +kernel
theorem dJx4a65c_fastRemove_b59b0_16 : decode cJx4a65c_fastRemove_b59b0 16 = .ok (.dup, 1) := by decide +kernel
theorem dJx4a65c_fastRemove_b59b0_17 : decode cJx4a65c_fastRemove_b59b0 17 = .ok (.istore_n 3, 1) := by decide +kernel
theorem dJx4a65c_fastRemove_b59b0_18 : decode cJx4a65c_fastRemove_b59b0 18 = .ok (.iload_n 2, 1) := by decide +kernel
theorem dJx4a65c_fastRemove_b59b0_19 : decode cJx4a65c_fastRemove_b59b0 19 = .ok (.if_icmp .le 15, 3) := by decide +kernel
theorem dJx4a65c_fastRemove_b59b0_22 : decode cJx4a65c_fastRemove_b59b0 22 = .ok (.aload_n 1, 1) := by decide +kernel
theorem dJx4a65c_fastRemove_b59b0_23 : decode cJx4a65c_fastRemove_b59b0 23 = .ok (.iload_n 2, 1) := by decide +kernel
theorem dJx4a65c_fastRemove_b59b0_24 : decode cJx4a65c_fastRemove_b59b0 24 = .ok (.iconst 1, 1) := by decide +kernel
theorem dJx4a65c_fastRemove_b59b0_25 : decode cJx4a65c_fastRemove_b59b0 25 = .ok (.iadd, 1) := by decide +kernel
theorem dJx4a65c_fastRemove_b59b0_26 : decode cJx4a65c_fastRemove_b59b0 26 = .ok (.aload_n 1, 1) := by decide +kernel
theorem dJx4a65c_fastRemove_b59b0_27 : decode cJx4a65c_fastRemove_b59b0 27 = .ok (.iload_n 2, 1) := by decide +kernel
theorem dJx4a65c_fastRemove_b59b0_28 : decode cJx4a65c_fastRemove_b59b0 28 = .ok (.iload_n 3, 1) := by decide +kernel
theorem dJx4a65c_fastRemove_b59b0_29 : decode cJx4a65c_fastRemove_b59b0 29 = .ok (.iload_n 2, 1) := by decide +kernel
theorem dJx4a65c_fastRemove_b59b0_30 : decode cJx4a65c_fastRemove_b59b0 30 = .ok (.isub, 1) := by decide +kernel
theorem dJx4a65c_fastRemove_b59b0_31 : decode cJx4a65c_fastRemove_b59b0 31 = .ok (.invokestatic 112, 3) := by decide +kernel
theorem dJx4a65c_fastRemove_b59b0_34 : decode cJx4a65c_fastRemove_b59b0 34 = .ok (.aload_n 1, 1) := by decide +kernel
theorem dJx4a65c_fastRemove_b59b0_35 : decode cJx4a65c_fastRemove_b59b0 35 = .ok (.aload_n 0, 1) := by decide +kernel
theorem dJx4a65c_fastRemove_b59b0_36 : decode cJx4a65c_fastRemove_b59b0 36 = .ok (.iload_n 3, 1) := by decide +kernel
theorem dJx4a65c_fastRemove_b59b0_37 : decode cJx4a65c_fastRemove_b59b0 37 = .ok (.dup_x1, 1) := by decide +kernel
theorem dJx4a65c_fastRemove_b59b0_38 : decode cJx4a65c_fastRemove_b59b0 38 = .ok (.putfield 48, 3) := by decide +kernel
theorem dJx4a65c_fastRemove_b59b0_41 : decode cJx4a65c_fastRemove_b59b0 41 = .ok (.aconst_null, 1) := by decide +kernel
theorem dJx4a65c_fastRemove_b59b0_42 : decode cJx4a65c_fastRemove_b59b0 42 = .ok (.aastore, 1) := by decide +kernel
theorem dJx4a65c_fastRemove_b59b0_43 : decode cJx4a65c_fastRemove_b59b0 43 = .ok (.return_, 1) := by decide +kernel
theorem dJx4a65c_rangeCheckForAdd_d00df_0 : decode cJx4a65c_rangeCheckForAdd_d00df 0 = .ok (.iload_n 1, 1) := by decide +kernel
theorem dJx4a65c_rangeCheckForAdd_d00df_1 : decode cJx4a65c_rangeCheckForAdd_d00df 1 = .ok (.aload_n 0, 1) := by decide +kernel
theorem dJx4a65c_rangeCheckForAdd_d00df_2 : decode cJx4a65c_rangeCheckForAdd_d00df 2 = .ok (.getfield 48, 3) := by decide +kernel
theorem dJx4a65c_rangeCheckForAdd_d00df_5 : decode cJx4a65c_rangeCheckForAdd_d00df 5 = .ok (.if_icmp .gt 7, 3) := by decide +kernel
theorem dJx4a65c_rangeCheckForAdd_d00df_8 : decode cJx4a65c_rangeCheckForAdd_d00df 8 = .ok (.iload_n 1, 1) := by decide +kernel
theorem dJx4a65c_rangeCheckForAdd_d00df_9 : decode cJx4a65c_rangeCheckForAdd_d00df 9 = .ok (.ifCond .ge 16, 3) := by decide +kernel
theorem dJx4a65c_rangeCheckForAdd_d00df_12 : decode cJx4a65c_rangeCheckForAdd_d00df 12 = .ok (.new 187, 3) := by decide +kernel
theorem dJx4a65c_rangeCheckForAdd_d00df_15 : decode cJx4a65c_rangeCheckForAdd_d00df 15 = .ok (.dup, 1) := by decide +kernel
theorem dJx4a65c_rangeCheckForAdd_d00df_16 : decode cJx4a65c_rangeCheckForAdd_d00df 16 = .ok (.aload_n 0, 1) := by decide +kernel
theorem dJx4a65c_rangeCheckForAdd_d00df_17 : decode cJx4a65c_rangeCheckForAdd_d00df 17 = .ok (.iload_n 1, 1) := by decide +kernel
theorem dJx4a65c_rangeCheckForAdd_d00df_18 : decode cJx4a65c_rangeCheckForAdd_d00df 18 = .ok (.invokevirtual 198, 3) := by decide +kernel
theorem dJx4a65c_rangeCheckForAdd_d00df_21 : decode cJx4a65c_rangeCheckForAdd_d00df 21 = .ok (.invokespecial 193, 3) := by decide +kernel
theorem dJx4a65c_rangeCheckForAdd_d00df_24 : decode cJx4a65c_rangeCheckForAdd_d00df 24 = .ok (.athrow, 1) := by decide +kernel
theorem dJx4a65c_rangeCheckForAdd_d00df_25 : decode cJx4a65c_rangeCheckForAdd_d00df 25 = .ok (.return_, 1) := by decide +kernel
theorem dJ7_fill_53178_0 : decode cJ7_fill_53178 0 = .ok (.iconst 0, 1) := by decide +kernel
theorem dJ7_fill_53178_1 : decode cJ7_fill_53178 1 = .ok (.istore_n 2, 1) := by decide +kernel
theorem dJ7_fill_53178_2 : decode cJ7_fill_53178 2 = .ok (.aload_n 0, 1) := by decide +kernel
theorem dJ7_fill_53178_3 : decode cJ7_fill_53178 3 = .ok (.arraylength, 1) := by decide +kernel
theorem dJ7_fill_53178_4 : decode cJ7_fill_53178 4 = .ok (.istore_n 3, 1) := by decide +kernel
theorem dJ7_fill_53178_5 : decode cJ7_fill_53178 5 = .ok (.iload_n 2, 1) := by decide +kernel
theorem dJ7_fill_53178_6 : decode cJ7_fill_53178 6 = .ok (.iload_n 3, 1) := by decide +kernel
theorem dJ7_fill_53178_7 : decode cJ7_fill_53178 7 = .ok (.if_icmp .ge 13, 3) := by decide +kernel
theorem dJ7_fill_53178_10 : decode cJ7_fill_53178 10 = .ok (.aload_n 0, 1) := by decide +kernel
theorem dJ7_fill_53178_11 : decode cJ7_fill_53178 11 = .ok (.iload_n 2, 1) := by decide +kernel
theorem dJ7_fill_53178_12 : decode cJ7_fill_53178 12 = .ok (.iload_n 1, 1) := by decide +kernel
theorem dJ7_fill_53178_13 : decode cJ7_fill_53178 13 = .ok (.iastore, 1) := by decide +kernel
theorem dJ7_fill_53178_14 : decode cJ7_fill_53178 14 = .ok (.iinc 2 1, 3) := by decide +kernel
theorem dJ7_fill_53178_17 : decode cJ7_fill_53178 17 = .ok (.goto (-12), 3) := by decide +kernel
theorem dJ7_fill_53178_20 : decode cJ7_fill_53178 20 = .ok (.return_, 1) := by decide +kernel
theorem dJ7_copyOf_1904c_0 : decode cJ7_copyOf_1904c 0 = .ok (.aload_n 0, 1) := by decide +kernel
theorem dJ7_copyOf_1904c_1 : decode cJ7_copyOf_1904c 1 = .ok (.iload_n 1, 1) := by decide +kernel
theorem dJ7_copyOf_1904c_2 : decode cJ7_copyOf_1904c 2 = .ok (.aload_n 0, 1) := by decide +kernel
theorem dJ7_copyOf_1904c_3 : decode cJ7_copyOf_1904c 3 = .ok (.invokevirtual 86, 3) := by decide +kernel
theorem dJ7_copyOf_1904c_6 : decode cJ7_copyOf_1904c 6 = .ok (.invokestatic 300, 3) := by decide +kernel
theorem dJ7_copyOf_1904c_9 : decode cJ7_copyOf_1904c 9 = .ok (.areturn, 1) := by decide +kernel
theorem dJ7_copyOf_6403c_0 : decode cJ7_copyOf_6403c 0 = .ok (.aload_n 2, 1) := by decide +kernel
theorem dJ7_copyOf_6403c_1 : decode cJ7_copyOf_6403c 1 = .ok (.ldc 110, 2) := by decide +kernel
theorem dJ7_copyOf_6403c_3 : decode cJ7_copyOf_6403c 3 = .ok (.if_acmp .ne 10, 3) := by decide +kernel
theorem dJ7_copyOf_6403c_6 : decode cJ7_copyOf_6403c 6 = .ok (.iload_n 1, 1) := by decide +kernel
theorem dJ7_copyOf_6403c_7 : decode cJ7_copyOf_6403c 7 = .ok (.anewarray 2, 3) := by decide +kernel
theorem dJ7_copyOf_6403c_10 : decode cJ7_copyOf_6403c 10 = .ok (.goto 14, 3) := by decide +kernel
theorem dJ7_copyOf_6403c_13 : decode cJ7_copyOf_6403c 13 = .ok (.aload_n 2, 1) := by decide +kernel
theorem dJ7_copyOf_6403c_14 : decode cJ7_copyOf_6403c 14 = .ok (.invokevirtual 90, 3) := by decide +kernel
theorem dJ7_copyOf_6403c_17 : decode cJ7_copyOf_6403c 17 = .ok (.iload_n 1, 1) := by decide +kernel
theorem dJ7_copyOf_6403c_18 : decode cJ7_copyOf_6403c 18 = .ok (.invokestatic 95, 3) := by decide +kernel
theorem dJ7_copyOf_6403c_21 : decode cJ7_copyOf_6403c 21 = .ok (.checkcast 110, 3) := by decide +kernel
theorem dJ7_copyOf_6403c_24 : decode cJ7_copyOf_6403c 24 = .ok (.astore_n 3, 1) := by decide +kernel
theorem dJ7_copyOf_6403c_25 : decode cJ7_copyOf_6403c 25 = .ok (.aload_n 0, 1) := by decide +kernel
theorem dJ7_copyOf_6403c_26 : decode cJ7_copyOf_6403c 26 = .ok (.iconst 0, 1) := by decide +kernel
theorem dJ7_copyOf_6403c_27 : decode cJ7_copyOf_6403c 27 = .ok (.aload_n 3, 1) := by decide +kernel
theorem dJ7_copyOf_6403c_28 : decode cJ7_copyOf_6403c 28 = .ok (.iconst 0, 1) := by decide +kernel
theorem dJ7_copyOf_6403c_29 : decode cJ7_copyOf_6403c 29 = .ok (.aload_n 0, 1) := by decide +kernel
theorem dJ7_copyOf_6403c_30 : decode cJ7_copyOf_6403c 30 = .ok (.arraylength, 1) := by decide +kernel
theorem dJ7_copyOf_6403c_31 : decode cJ7_copyOf_6403c 31 = .ok (.iload_n 1, 1) := by decide +kernel
theorem dJ7_copyOf_6403c_32 : decode cJ7_copyOf_6403c 32 = .ok (.invokestatic 304, 3) := by decide +kernel
theorem dJ7_copyOf_6403c_35 : decode cJ7_copyOf_6403c 35 = .ok (.invokestatic 150, 3) := by decide +kernel
theorem dJ7_copyOf_6403c_38 : decode cJ7_copyOf_6403c 38 = .ok (.aload_n 3, 1) := by decide +kernel
theorem dJ7_copyOf_6403c_39 : decode cJ7_copyOf_6403c 39 = .ok (.areturn, 1) := by decide +kernel
theorem dJ15_checkIndex_7cf53_0 : decode cJ15_checkIndex_7cf53 0 = .ok (.iload_n 0, 1) := by decide +kernel
theorem dJ15_checkIndex_7cf53_1 : decode cJ15_checkIndex_7cf53 1 = .ok (.iload_n 1, 1) := by decide +kernel
theorem dJ15_checkIndex_7cf53_2 : decode cJ15_checkIndex_7cf53 2 = .ok (.aconst_null, 1) := by decide +kernel
theorem dJ15_checkIndex_7cf53_3 : decode cJ15_checkIndex_7cf53 3 = .ok (.invokestatic 105, 3) := by decide +kernel
theorem dJ15_checkIndex_7cf53_6 : decode cJ15_checkIndex_7cf53 6 = .ok (.ireturn, 1) := by decide +kernel
theorem dJ8_newLength_cabcc_0 : decode cJ8_newLength_cabcc 0 = .ok (.iload_n 0, 1) := by decide +kernel
theorem dJ8_newLength_cabcc_1 : decode cJ8_newLength_cabcc 1 = .ok (.iload_n 1, 1) := by decide +kernel
theorem dJ8_newLength_cabcc_2 : decode cJ8_newLength_cabcc 2 = .ok (.iload_n 2, 1) := by decide +kernel
theorem dJ8_newLength_cabcc_3 : decode cJ8_newLength_cabcc 3 = .ok (.invokestatic 194, 3) := by decide +kernel
theorem dJ8_newLength_cabcc_6 : decode cJ8_newLength_cabcc 6 = .ok (.iadd, 1) := by decide +kernel
theorem dJ8_newLength_cabcc_7 : decode cJ8_newLength_cabcc 7 = .ok (.istore_n 3, 1) := by decide +kernel
theorem dJ8_newLength_cabcc_8 : decode cJ8_newLength_cabcc 8 = .ok (.iconst 0, 1) := by decide +kernel
theorem dJ8_newLength_cabcc_9 : decode cJ8_newLength_cabcc 9 = .ok (.iload_n 3, 1) := by decide +kernel
theorem dJ8_newLength_cabcc_10 : decode cJ8_newLength_cabcc 10 = .ok (.if_icmp .ge 11, 3) := by decide +kernel
theorem dJ8_newLength_cabcc_13 : decode cJ8_newLength_cabcc 13 = .ok (.iload_n 3, 1) := by decide +kernel
theorem dJ8_newLength_cabcc_14 : decode cJ8_newLength_cabcc 14 = .ok (.ldc 200, 2) := by decide +kernel
theorem dJ8_newLength_cabcc_16 : decode cJ8_newLength_cabcc 16 = .ok (.if_icmp .gt 5, 3) := by decide +kernel
theorem dJ8_newLength_cabcc_19 : decode cJ8_newLength_cabcc 19 = .ok (.iload_n 3, 1) := by decide +kernel
theorem dJ8_newLength_cabcc_20 : decode cJ8_newLength_cabcc 20 = .ok (.ireturn, 1) := by decide +kernel
theorem dJ8_newLength_cabcc_21 : decode cJ8_newLength_cabcc 21 = .ok (.iload_n 0, 1) := by decide +kernel
theorem dJ8_newLength_cabcc_22 : decode cJ8_newLength_cabcc 22 = .ok (.iload_n 1, 1) := by decide +kernel
theorem dJ8_newLength_cabcc_23 : decode cJ8_newLength_cabcc 23 = .ok (.invokestatic 201, 3) := by decide +kernel
theorem dJ8_newLength_cabcc_26 : decode cJ8_newLength_cabcc 26 = .ok (.ireturn, 1) := by decide +kernel
theorem dJ8_hugeLength_7cf53_0 : decode cJ8_hugeLength_7cf53 0 = .ok (.iload_n 0, 1) := by decide +kernel
theorem dJ8_hugeLength_7cf53_1 : decode cJ8_hugeLength_7cf53 1 = .ok (.iload_n 1, 1) := by decide +kernel
theorem dJ8_hugeLength_7cf53_2 : decode cJ8_hugeLength_7cf53 2 = .ok (.iadd, 1) := by decide +kernel
theorem dJ8_hugeLength_7cf53_3 : decode cJ8_hugeLength_7cf53 3 = .ok (.istore_n 2, 1) := by decide +kernel
theorem dJ8_hugeLength_7cf53_4 : decode cJ8_hugeLength_7cf53 4 = .ok (.iload_n 2, 1) := by decide +kernel
theorem dJ8_hugeLength_7cf53_5 : decode cJ8_hugeLength_7cf53 5 = .ok (.ifCond .ge 44, 3) := by decide +kernel
theorem dJ8_hugeLength_7cf53_8 : decode cJ8_hugeLength_7cf53 8 = .ok (.new 204, 3) := by decide +kernel
theorem dJ8_hugeLength_7cf53_11 : decode cJ8_hugeLength_7cf53 11 = .ok (.dup, 1) := by decide +kernel
theorem dJ8_hugeLength_7cf53_12 : decode cJ8_hugeLength_7cf53 12 = .ok (.new 89, 3) := by decide +kernel
theorem dJ8_hugeLength_7cf53_15 : decode cJ8_hugeLength_7cf53 15 = .ok (.dup, 1) := by decide +kernel
theorem dJ8_hugeLength_7cf53_16 : decode cJ8_hugeLength_7cf53 16 = .ok (.invokespecial 91, 3) := by decide +kernel
theorem dJ8_hugeLength_7cf53_19 : decode cJ8_hugeLength_7cf53 19 = .ok (.ldc 206, 2) := by decide +kernel
theorem dJ8_hugeLength_7cf53_21 : decode cJ8_hugeLength_7cf53 21 = .ok (.invokevirtual 94, 3) := by decide +kernel
theorem dJ8_hugeLength_7cf53_24 : decode cJ8_hugeLength_7cf53 24 = .ok (.iload_n 0, 1) := by decide +kernel
theorem dJ8_hugeLength_7cf53_25 : decode cJ8_hugeLength_7cf53 25 = .ok (.invokevirtual 98, 3) := by decide +kernel
theorem dJ8_hugeLength_7cf53_28 : decode cJ8_hugeLength_7cf53 28 = .ok (.ldc 208, 2) := by decide +kernel
theorem dJ8_hugeLength_7cf53_30 : decode cJ8_hugeLength_7cf53 30 = .ok (.invokevirtual 94, 3) := by decide +kernel
theorem dJ8_hugeLength_7cf53_33 : decode cJ8_hugeLength_7cf53 33 = .ok (.iload_n 1, 1) := by decide +kernel
theorem dJ8_hugeLength_7cf53_34 : decode cJ8_hugeLength_7cf53 34 = .ok (.invokevirtual 98, 3) := by decide +kernel
theorem dJ8_hugeLength_7cf53_37 : decode cJ8_hugeLength_7cf53 37 = .ok (.ldc 210, 2) := by decide +kernel
theorem dJ8_hugeLength_7cf53_39 : decode cJ8_hugeLength_7cf53 39 = .ok (.invokevirtual 94, 3) := by decide +kernel
theorem dJ8_hugeLength_7cf53_42 : decode cJ8_hugeLength_7cf53 42 = .ok (.invokevirtual 101, 3) := by decide +kernel
theorem dJ8_hugeLength_7cf53_45 : decode cJ8_hugeLength_7cf53 45 = .ok (.invokespecial 212, 3) := by decide +kernel
theorem dJ8_hugeLength_7cf53_48 : decode cJ8_hugeLength_7cf53 48 = .ok (.athrow, 1) := by decide +kernel
theorem dJ8_hugeLength_7cf53_49 : decode cJ8_hugeLength_7cf53 49 = .ok (.iload_n 2, 1) := by decide +kernel
theorem dJ8_hugeLength_7cf53_50 : decode cJ8_hugeLength_7cf53 50 = .ok (.ldc 200, 2) := by decide +kernel
theorem dJ8_hugeLength_7cf53_52 : decode cJ8_hugeLength_7cf53 52 = .ok (.if_icmp .gt 6, 3) := by decide +kernel
theorem dJ8_hugeLength_7cf53_55 : decode cJ8_hugeLength_7cf53 55 = .ok (.ldc 200, 2) := by decide +kernel
theorem dJ8_hugeLength_7cf53_57 : decode cJ8_hugeLength_7cf53 57 = .ok (.ireturn, 1) := by decide +kernel
theorem dJ8_hugeLength_7cf53_58 : decode cJ8_hugeLength_7cf53 58 = .ok (.iload_n 2, 1) := by decide +kernel
theorem dJ8_hugeLength_7cf53_59 : decode cJ8_hugeLength_7cf53 59 = .ok (.ireturn, 1) := by decide +kernel
theorem dJ3_checkIndex_8e157_0 : decode cJ3_checkIndex_8e157 0 = .ok (.iload_n 0, 1) := by decide +kernel
theorem dJ3_checkIndex_8e157_1 : decode cJ3_checkIndex_8e157 1 = .ok (.ifCond .lt 8, 3) := by decide +kernel
theorem dJ3_checkIndex_8e157_4 : decode cJ3_checkIndex_8e157 4 = .ok (.iload_n 0, 1) := by decide +kernel
theorem dJ3_checkIndex_8e157_5 : decode cJ3_checkIndex_8e157 5 = .ok (.iload_n 1, 1) := by decide +kernel
theorem dJ3_checkIndex_8e157_6 : decode cJ3_checkIndex_8e157 6 = .ok (.if_icmp .lt 10, 3) := by decide +kernel
theorem dJ3_checkIndex_8e157_9 : decode cJ3_checkIndex_8e157 9 = .ok (.aload_n 2, 1) := by decide +kernel
theorem dJ3_checkIndex_8e157_10 : decode cJ3_checkIndex_8e157 10 = .ok (.iload_n 0, 1) := by decide +kernel
theorem dJ3_checkIndex_8e157_11 : decode cJ3_checkIndex_8e157 11 = .ok (.iload_n 1, 1) := by decide +kernel
theorem dJ3_checkIndex_8e157_12 : decode cJ3_checkIndex_8e157 12 = .ok (.invokestatic 95, 3) := by decide +kernel
theorem dJ3_checkIndex_8e157_15 : decode cJ3_checkIndex_8e157 15 = .ok (.athrow, 1) := by decide +kernel
theorem dJ3_checkIndex_8e157_16 : decode cJ3_checkIndex_8e157 16 = .ok (.iload_n 0, 1) := by decide +kernel
theorem dJ3_checkIndex_8e157_17 : decode cJ3_checkIndex_8e157 17 = .ok (.ireturn, 1) := by decide +kernel
