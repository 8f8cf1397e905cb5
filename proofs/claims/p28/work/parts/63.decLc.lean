section
theorem dL_draw_0 : decode cL_draw 0 = .ok (.iload_n 1, 1) := by decide +kernel
theorem dL_draw_1 : decode cL_draw 1 = .ok (.aload_n 0, 1) := by decide +kernel
theorem dL_draw_2 : decode cL_draw 2 = .ok (.arraylength, 1) := by decide +kernel
theorem dL_draw_3 : decode cL_draw 3 = .ok (.if_icmp .ge 12, 3) := by decide +kernel
theorem dL_draw_6 : decode cL_draw 6 = .ok (.aload_n 0, 1) := by decide +kernel
theorem dL_draw_7 : decode cL_draw 7 = .ok (.iload_n 1, 1) := by decide +kernel
theorem dL_draw_8 : decode cL_draw 8 = .ok (.iaload, 1) := by decide +kernel
theorem dL_draw_9 : decode cL_draw 9 = .ok (.ldc 7, 2) := by decide +kernel
theorem dL_draw_11 : decode cL_draw 11 = .ok (.iand, 1) := by decide +kernel
theorem dL_draw_12 : decode cL_draw 12 = .ok (.goto 12, 3) := by decide +kernel
theorem dL_draw_15 : decode cL_draw 15 = .ok (.ldc 8, 2) := by decide +kernel
theorem dL_draw_17 : decode cL_draw 17 = .ok (.iload_n 1, 1) := by decide +kernel
theorem dL_draw_18 : decode cL_draw 18 = .ok (.iconst 2, 1) := by decide +kernel
theorem dL_draw_19 : decode cL_draw 19 = .ok (.iadd, 1) := by decide +kernel
theorem dL_draw_20 : decode cL_draw 20 = .ok (.imul, 1) := by decide +kernel
theorem dL_draw_21 : decode cL_draw 21 = .ok (.ldc 9, 2) := by decide +kernel
theorem dL_draw_23 : decode cL_draw 23 = .ok (.irem, 1) := by decide +kernel
theorem dL_draw_24 : decode cL_draw 24 = .ok (.ireturn, 1) := by decide +kernel
theorem dL_ships_0 : decode cL_ships 0 = .ok (.aload_n 1, 1) := by decide +kernel
theorem dL_ships_1 : decode cL_ships 1 = .ok (.iconst 1, 1) := by decide +kernel
theorem dL_ships_2 : decode cL_ships 2 = .ok (.iaload, 1) := by decide +kernel
theorem dL_ships_3 : decode cL_ships 3 = .ok (.istore 5, 2) := by decide +kernel
theorem dL_ships_5 : decode cL_ships 5 = .ok (.aload_n 2, 1) := by decide +kernel
theorem dL_ships_6 : decode cL_ships 6 = .ok (.iload 5, 2) := by decide +kernel
theorem dL_ships_8 : decode cL_ships 8 = .ok (.iconst 1, 1) := by decide +kernel
theorem dL_ships_9 : decode cL_ships 9 = .ok (.iload_n 3, 1) := by decide +kernel
theorem dL_ships_10 : decode cL_ships 10 = .ok (.iconst 4, 1) := by decide +kernel
theorem dL_ships_11 : decode cL_ships 11 = .ok (.irem, 1) := by decide +kernel
theorem dL_ships_12 : decode cL_ships 12 = .ok (.iadd, 1) := by decide +kernel
theorem dL_ships_13 : decode cL_ships 13 = .ok (.iastore, 1) := by decide +kernel
theorem dL_ships_14 : decode cL_ships 14 = .ok (.aload_n 2, 1) := by decide +kernel
theorem dL_ships_15 : decode cL_ships 15 = .ok (.bipush 10, 2) := by decide +kernel
theorem dL_ships_17 : decode cL_ships 17 = .ok (.iload 5, 2) := by decide +kernel
theorem dL_ships_19 : decode cL_ships 19 = .ok (.iadd, 1) := by decide +kernel
theorem dL_ships_20 : decode cL_ships 20 = .ok (.bipush 10, 2) := by decide +kernel
theorem dL_ships_22 : decode cL_ships 22 = .ok (.iload 4, 2) := by decide +kernel
theorem dL_ships_24 : decode cL_ships 24 = .ok (.bipush 100, 2) := by decide +kernel
theorem dL_ships_26 : decode cL_ships 26 = .ok (.irem, 1) := by decide +kernel
theorem dL_ships_27 : decode cL_ships 27 = .ok (.iadd, 1) := by decide +kernel
theorem dL_ships_28 : decode cL_ships 28 = .ok (.iastore, 1) := by decide +kernel
theorem dL_ships_29 : decode cL_ships 29 = .ok (.aload_n 2, 1) := by decide +kernel
theorem dL_ships_30 : decode cL_ships 30 = .ok (.bipush 20, 2) := by decide +kernel
theorem dL_ships_32 : decode cL_ships 32 = .ok (.iload 5, 2) := by decide +kernel
theorem dL_ships_34 : decode cL_ships 34 = .ok (.iadd, 1) := by decide +kernel
theorem dL_ships_35 : decode cL_ships 35 = .ok (.iload_n 3, 1) := by decide +kernel
theorem dL_ships_36 : decode cL_ships 36 = .ok (.iconst 4, 1) := by decide +kernel
theorem dL_ships_37 : decode cL_ships 37 = .ok (.idiv, 1) := by decide +kernel
theorem dL_ships_38 : decode cL_ships 38 = .ok (.iconst 4, 1) := by decide +kernel
theorem dL_ships_39 : decode cL_ships 39 = .ok (.irem, 1) := by decide +kernel
theorem dL_ships_40 : decode cL_ships 40 = .ok (.iastore, 1) := by decide +kernel
theorem dL_ships_41 : decode cL_ships 41 = .ok (.aload_n 2, 1) := by decide +kernel
theorem dL_ships_42 : decode cL_ships 42 = .ok (.bipush 30, 2) := by decide +kernel
theorem dL_ships_44 : decode cL_ships 44 = .ok (.iload 5, 2) := by decide +kernel
theorem dL_ships_46 : decode cL_ships 46 = .ok (.iadd, 1) := by decide +kernel
theorem dL_ships_47 : decode cL_ships 47 = .ok (.iload 4, 2) := by decide +kernel
theorem dL_ships_49 : decode cL_ships 49 = .ok (.bipush 100, 2) := by decide +kernel
theorem dL_ships_51 : decode cL_ships 51 = .ok (.idiv, 1) := by decide +kernel
theorem dL_ships_52 : decode cL_ships 52 = .ok (.bipush 6, 2) := by decide +kernel
theorem dL_ships_54 : decode cL_ships 54 = .ok (.irem, 1) := by decide +kernel
theorem dL_ships_55 : decode cL_ships 55 = .ok (.iastore, 1) := by decide +kernel
theorem dL_ships_56 : decode cL_ships 56 = .ok (.aload_n 2, 1) := by decide +kernel
theorem dL_ships_57 : decode cL_ships 57 = .ok (.bipush 40, 2) := by decide +kernel
theorem dL_ships_59 : decode cL_ships 59 = .ok (.iload 5, 2) := by decide +kernel
theorem dL_ships_61 : decode cL_ships 61 = .ok (.iadd, 1) := by decide +kernel
theorem dL_ships_62 : decode cL_ships 62 = .ok (.iconst 0, 1) := by decide +kernel
theorem dL_ships_63 : decode cL_ships 63 = .ok (.iastore, 1) := by decide +kernel
theorem dL_ships_64 : decode cL_ships 64 = .ok (.aload_n 1, 1) := by decide +kernel
theorem dL_ships_65 : decode cL_ships 65 = .ok (.iconst 1, 1) := by decide +kernel
theorem dL_ships_66 : decode cL_ships 66 = .ok (.dup2, 1) := by decide +kernel
theorem dL_ships_67 : decode cL_ships 67 = .ok (.iaload, 1) := by decide +kernel
theorem dL_ships_68 : decode cL_ships 68 = .ok (.iconst 1, 1) := by decide +kernel
theorem dL_ships_69 : decode cL_ships 69 = .ok (.iadd, 1) := by decide +kernel
theorem dL_ships_70 : decode cL_ships 70 = .ok (.iastore, 1) := by decide +kernel
theorem dL_ships_71 : decode cL_ships 71 = .ok (.aload_n 0, 1) := by decide +kernel
theorem dL_ships_72 : decode cL_ships 72 = .ok (.aload_n 2, 1) := by decide +kernel
theorem dL_ships_73 : decode cL_ships 73 = .ok (.iload 5, 2) := by decide +kernel
theorem dL_ships_75 : decode cL_ships 75 = .ok (.iaload, 1) := by decide +kernel
theorem dL_ships_76 : decode cL_ships 76 = .ok (.aload_n 2, 1) := by decide +kernel
theorem dL_ships_77 : decode cL_ships 77 = .ok (.bipush 10, 2) := by decide +kernel
theorem dL_ships_79 : decode cL_ships 79 = .ok (.iload 5, 2) := by decide +kernel
theorem dL_ships_81 : decode cL_ships 81 = .ok (.iadd, 1) := by decide +kernel
theorem dL_ships_82 : decode cL_ships 82 = .ok (.iaload, 1) := by decide +kernel
theorem dL_ships_83 : decode cL_ships 83 = .ok (.aload_n 2, 1) := by decide +kernel
theorem dL_ships_84 : decode cL_ships 84 = .ok (.bipush 20, 2) := by decide +kernel
theorem dL_ships_86 : decode cL_ships 86 = .ok (.iload 5, 2) := by decide +kernel
theorem dL_ships_88 : decode cL_ships 88 = .ok (.iadd, 1) := by decide +kernel
theorem dL_ships_89 : decode cL_ships 89 = .ok (.iaload, 1) := by decide +kernel
theorem dL_ships_90 : decode cL_ships 90 = .ok (.aload_n 2, 1) := by decide +kernel
theorem dL_ships_91 : decode cL_ships 91 = .ok (.bipush 30, 2) := by decide +kernel
theorem dL_ships_93 : decode cL_ships 93 = .ok (.iload 5, 2) := by decide +kernel
theorem dL_ships_95 : decode cL_ships 95 = .ok (.iadd, 1) := by decide +kernel
theorem dL_ships_96 : decode cL_ships 96 = .ok (.iaload, 1) := by decide +kernel
theorem dL_ships_97 : decode cL_ships 97 = .ok (.invokevirtual 76, 3) := by decide +kernel
theorem dL_ships_100 : decode cL_ships 100 = .ok (.iload 5, 2) := by decide +kernel
theorem dL_ships_102 : decode cL_ships 102 = .ok (.if_icmp .ne 35, 3) := by decide +kernel
theorem dL_ships_105 : decode cL_ships 105 = .ok (.aload_n 0, 1) := by decide +kernel
theorem dL_ships_106 : decode cL_ships 106 = .ok (.iload 5, 2) := by decide +kernel
theorem dL_ships_108 : decode cL_ships 108 = .ok (.invokevirtual 80, 3) := by decide +kernel
theorem dL_ships_111 : decode cL_ships 111 = .ok (.ifCond .ne 26, 3) := by decide +kernel
theorem dL_ships_114 : decode cL_ships 114 = .ok (.aload_n 0, 1) := by decide +kernel
theorem dL_ships_115 : decode cL_ships 115 = .ok (.iload 5, 2) := by decide +kernel
theorem dL_ships_117 : decode cL_ships 117 = .ok (.invokevirtual 67, 3) := by decide +kernel
theorem dL_ships_120 : decode cL_ships 120 = .ok (.ifCond .ne 17, 3) := by decide +kernel
theorem dL_ships_123 : decode cL_ships 123 = .ok (.aload_n 0, 1) := by decide +kernel
theorem dL_ships_124 : decode cL_ships 124 = .ok (.iload 5, 2) := by decide +kernel
theorem dL_ships_126 : decode cL_ships 126 = .ok (.invokevirtual 45, 3) := by decide +kernel
theorem dL_ships_129 : decode cL_ships 129 = .ok (.iconst (-1), 1) := by decide +kernel
theorem dL_ships_130 : decode cL_ships 130 = .ok (.if_icmp .ne 7, 3) := by decide +kernel
theorem dL_ships_133 : decode cL_ships 133 = .ok (.iconst 1, 1) := by decide +kernel
theorem dL_ships_134 : decode cL_ships 134 = .ok (.goto 4, 3) := by decide +kernel
theorem dL_ships_137 : decode cL_ships 137 = .ok (.iconst 0, 1) := by decide +kernel
theorem dL_ships_138 : decode cL_ships 138 = .ok (.ireturn, 1) := by decide +kernel
theorem dL_ofBerth_0 : decode cL_ofBerth 0 = .ok (.aload_n 0, 1) := by decide +kernel
theorem dL_ofBerth_1 : decode cL_ofBerth 1 = .ok (.iload_n 1, 1) := by decide +kernel
theorem dL_ofBerth_2 : decode cL_ofBerth 2 = .ok (.iload_n 2, 1) := by decide +kernel
theorem dL_ofBerth_3 : decode cL_ofBerth 3 = .ok (.invokevirtual 83, 3) := by decide +kernel
theorem dL_ofBerth_6 : decode cL_ofBerth 6 = .ok (.ireturn, 1) := by decide +kernel
theorem dL_ofBerth_7 : decode cL_ofBerth 7 = .ok (.astore_n 3, 1) := by decide +kernel
theorem dL_ofBerth_8 : decode cL_ofBerth 8 = .ok (.iconst (-1), 1) := by decide +kernel
theorem dL_ofBerth_9 : decode cL_ofBerth 9 = .ok (.ireturn, 1) := by decide +kernel
theorem dL_ofTable_0 : decode cL_ofTable 0 = .ok (.aload_n 0, 1) := by decide +kernel
theorem dL_ofTable_1 : decode cL_ofTable 1 = .ok (.iload_n 1, 1) := by decide +kernel
theorem dL_ofTable_2 : decode cL_ofTable 2 = .ok (.iload_n 2, 1) := by decide +kernel
theorem dL_ofTable_3 : decode cL_ofTable 3 = .ok (.invokevirtual 88, 3) := by decide +kernel
theorem dL_ofTable_6 : decode cL_ofTable 6 = .ok (.ireturn, 1) := by decide +kernel
theorem dL_ofTable_7 : decode cL_ofTable 7 = .ok (.astore_n 3, 1) := by decide +kernel
theorem dL_ofTable_8 : decode cL_ofTable 8 = .ok (.iconst (-1), 1) := by decide +kernel
theorem dL_ofTable_9 : decode cL_ofTable 9 = .ok (.ireturn, 1) := by decide +kernel
theorem dL_isRota_0 : decode cL_isRota 0 = .ok (.iconst 0, 1) := by decide +kernel
theorem dL_isRota_1 : decode cL_isRota 1 = .ok (.istore_n 1, 1) := by decide +kernel
theorem dL_isRota_2 : decode cL_isRota 2 = .ok (.iconst 0, 1) := by decide +kernel
theorem dL_isRota_3 : decode cL_isRota 3 = .ok (.istore_n 2, 1) := by decide +kernel
theorem dL_isRota_4 : decode cL_isRota 4 = .ok (.iload_n 2, 1) := by decide +kernel
theorem dL_isRota_5 : decode cL_isRota 5 = .ok (.bipush 6, 2) := by decide +kernel
theorem dL_isRota_7 : decode cL_isRota 7 = .ok (.if_icmp .ge 19, 3) := by decide +kernel
theorem dL_isRota_10 : decode cL_isRota 10 = .ok (.iload_n 1, 1) := by decide +kernel
theorem dL_isRota_11 : decode cL_isRota 11 = .ok (.iconst 1, 1) := by decide +kernel
theorem dL_isRota_12 : decode cL_isRota 12 = .ok (.aload_n 0, 1) := by decide +kernel
theorem dL_isRota_13 : decode cL_isRota 13 = .ok (.iload_n 2, 1) := by decide +kernel
theorem dL_isRota_14 : decode cL_isRota 14 = .ok (.invokevirtual 54, 3) := by decide +kernel
theorem dL_isRota_17 : decode cL_isRota 17 = .ok (.ishl, 1) := by decide +kernel
theorem dL_isRota_18 : decode cL_isRota 18 = .ok (.ior, 1) := by decide +kernel
theorem dL_isRota_19 : decode cL_isRota 19 = .ok (.istore_n 1, 1) := by decide +kernel
theorem dL_isRota_20 : decode cL_isRota 20 = .ok (.iinc 2 1, 3) := by decide +kernel
theorem dL_isRota_23 : decode cL_isRota 23 = .ok (.goto (-19), 3) := by decide +kernel
theorem dL_isRota_26 : decode cL_isRota 26 = .ok (.iload_n 1, 1) := by decide +kernel
theorem dL_isRota_27 : decode cL_isRota 27 = .ok (.bipush 63, 2) := by decide +kernel
theorem dL_isRota_29 : decode cL_isRota 29 = .ok (.if_icmp .ne 7, 3) := by decide +kernel
theorem dL_isRota_32 : decode cL_isRota 32 = .ok (.iconst 1, 1) := by decide +kernel
theorem dL_isRota_33 : decode cL_isRota 33 = .ok (.goto 4, 3) := by decide +kernel
theorem dL_isRota_36 : decode cL_isRota 36 = .ok (.iconst 0, 1) := by decide +kernel
theorem dL_isRota_37 : decode cL_isRota 37 = .ok (.ireturn, 1) := by decide +kernel
theorem dL_areOrders_0 : decode cL_areOrders 0 = .ok (.iconst 1, 1) := by decide +kernel
theorem dL_areOrders_1 : decode cL_areOrders 1 = .ok (.istore_n 3, 1) := by decide +kernel
theorem dL_areOrders_2 : decode cL_areOrders 2 = .ok (.iconst 0, 1) := by decide +kernel
theorem dL_areOrders_3 : decode cL_areOrders 3 = .ok (.istore 4, 2) := by decide +kernel
theorem dL_areOrders_5 : decode cL_areOrders 5 = .ok (.iload 4, 2) := by decide +kernel
theorem dL_areOrders_7 : decode cL_areOrders 7 = .ok (.aload_n 1, 1) := by decide +kernel
theorem dL_areOrders_8 : decode cL_areOrders 8 = .ok (.iconst 1, 1) := by decide +kernel
theorem dL_areOrders_9 : decode cL_areOrders 9 = .ok (.iaload, 1) := by decide +kernel
theorem dL_areOrders_10 : decode cL_areOrders 10 = .ok (.if_icmp .ge 171, 3) := by decide +kernel
theorem dL_areOrders_13 : decode cL_areOrders 13 = .ok (.iload_n 3, 1) := by decide +kernel
theorem dL_areOrders_14 : decode cL_areOrders 14 = .ok (.ifCond .eq 167, 3) := by decide +kernel
theorem dL_areOrders_17 : decode cL_areOrders 17 = .ok (.iconst 0, 1) := by decide +kernel
theorem dL_areOrders_18 : decode cL_areOrders 18 = .ok (.istore 5, 2) := by decide +kernel
theorem dL_areOrders_20 : decode cL_areOrders 20 = .ok (.iconst 0, 1) := by decide +kernel
theorem dL_areOrders_21 : decode cL_areOrders 21 = .ok (.istore 6, 2) := by decide +kernel
theorem dL_areOrders_23 : decode cL_areOrders 23 = .ok (.iload 6, 2) := by decide +kernel
theorem dL_areOrders_25 : decode cL_areOrders 25 = .ok (.aload_n 1, 1) := by decide +kernel
theorem dL_areOrders_26 : decode cL_areOrders 26 = .ok (.iconst 1, 1) := by decide +kernel
theorem dL_areOrders_27 : decode cL_areOrders 27 = .ok (.iaload, 1) := by decide +kernel
theorem dL_areOrders_28 : decode cL_areOrders 28 = .ok (.if_icmp .ge 116, 3) := by decide +kernel
theorem dL_areOrders_31 : decode cL_areOrders 31 = .ok (.aload_n 2, 1) := by decide +kernel
theorem dL_areOrders_32 : decode cL_areOrders 32 = .ok (.bipush 20, 2) := by decide +kernel
theorem dL_areOrders_34 : decode cL_areOrders 34 = .ok (.iload 6, 2) := by decide +kernel
theorem dL_areOrders_36 : decode cL_areOrders 36 = .ok (.iadd, 1) := by decide +kernel
theorem dL_areOrders_37 : decode cL_areOrders 37 = .ok (.iaload, 1) := by decide +kernel
theorem dL_areOrders_38 : decode cL_areOrders 38 = .ok (.aload_n 2, 1) := by decide +kernel
theorem dL_areOrders_39 : decode cL_areOrders 39 = .ok (.bipush 20, 2) := by decide +kernel
theorem dL_areOrders_41 : decode cL_areOrders 41 = .ok (.iload 4, 2) := by decide +kernel
theorem dL_areOrders_43 : decode cL_areOrders 43 = .ok (.iadd, 1) := by decide +kernel
theorem dL_areOrders_44 : decode cL_areOrders 44 = .ok (.iaload, 1) := by decide +kernel
theorem dL_areOrders_45 : decode cL_areOrders 45 = .ok (.if_icmp .gt 61, 3) := by decide +kernel
theorem dL_areOrders_48 : decode cL_areOrders 48 = .ok (.aload_n 2, 1) := by decide +kernel
theorem dL_areOrders_49 : decode cL_areOrders 49 = .ok (.bipush 20, 2) := by decide +kernel
theorem dL_areOrders_51 : decode cL_areOrders 51 = .ok (.iload 6, 2) := by decide +kernel
theorem dL_areOrders_53 : decode cL_areOrders 53 = .ok (.iadd, 1) := by decide +kernel
theorem dL_areOrders_54 : decode cL_areOrders 54 = .ok (.iaload, 1) := by decide +kernel
theorem dL_areOrders_55 : decode cL_areOrders 55 = .ok (.aload_n 2, 1) := by decide +kernel
theorem dL_areOrders_56 : decode cL_areOrders 56 = .ok (.bipush 20, 2) := by decide +kernel
theorem dL_areOrders_58 : decode cL_areOrders 58 = .ok (.iload 4, 2) := by decide +kernel
theorem dL_areOrders_60 : decode cL_areOrders 60 = .ok (.iadd, 1) := by decide +kernel
theorem dL_areOrders_61 : decode cL_areOrders 61 = .ok (.iaload, 1) := by decide +kernel
theorem dL_areOrders_62 : decode cL_areOrders 62 = .ok (.if_icmp .ne 48, 3) := by decide +kernel
theorem dL_areOrders_65 : decode cL_areOrders 65 = .ok (.aload_n 2, 1) := by decide +kernel
theorem dL_areOrders_66 : decode cL_areOrders 66 = .ok (.bipush 50, 2) := by decide +kernel
theorem dL_areOrders_68 : decode cL_areOrders 68 = .ok (.iload 6, 2) := by decide +kernel
theorem dL_areOrders_70 : decode cL_areOrders 70 = .ok (.iadd, 1) := by decide +kernel
theorem dL_areOrders_71 : decode cL_areOrders 71 = .ok (.iaload, 1) := by decide +kernel
theorem dL_areOrders_72 : decode cL_areOrders 72 = .ok (.aload_n 2, 1) := by decide +kernel
theorem dL_areOrders_73 : decode cL_areOrders 73 = .ok (.bipush 50, 2) := by decide +kernel
theorem dL_areOrders_75 : decode cL_areOrders 75 = .ok (.iload 4, 2) := by decide +kernel
theorem dL_areOrders_77 : decode cL_areOrders 77 = .ok (.iadd, 1) := by decide +kernel
theorem dL_areOrders_78 : decode cL_areOrders 78 = .ok (.iaload, 1) := by decide +kernel
theorem dL_areOrders_79 : decode cL_areOrders 79 = .ok (.if_icmp .lt 27, 3) := by decide +kernel
theorem dL_areOrders_82 : decode cL_areOrders 82 = .ok (.aload_n 2, 1) := by decide +kernel
theorem dL_areOrders_83 : decode cL_areOrders 83 = .ok (.bipush 50, 2) := by decide +kernel
theorem dL_areOrders_85 : decode cL_areOrders 85 = .ok (.iload 6, 2) := by decide +kernel
theorem dL_areOrders_87 : decode cL_areOrders 87 = .ok (.iadd, 1) := by decide +kernel
theorem dL_areOrders_88 : decode cL_areOrders 88 = .ok (.iaload, 1) := by decide +kernel
theorem dL_areOrders_89 : decode cL_areOrders 89 = .ok (.aload_n 2, 1) := by decide +kernel
theorem dL_areOrders_90 : decode cL_areOrders 90 = .ok (.bipush 50, 2) := by decide +kernel
theorem dL_areOrders_92 : decode cL_areOrders 92 = .ok (.iload 4, 2) := by decide +kernel
theorem dL_areOrders_94 : decode cL_areOrders 94 = .ok (.iadd, 1) := by decide +kernel
theorem dL_areOrders_95 : decode cL_areOrders 95 = .ok (.iaload, 1) := by decide +kernel
theorem dL_areOrders_96 : decode cL_areOrders 96 = .ok (.if_icmp .ne 14, 3) := by decide +kernel
theorem dL_areOrders_99 : decode cL_areOrders 99 = .ok (.iload 6, 2) := by decide +kernel
theorem dL_areOrders_101 : decode cL_areOrders 101 = .ok (.iload 4, 2) := by decide +kernel
theorem dL_areOrders_103 : decode cL_areOrders 103 = .ok (.if_icmp .ge 7, 3) := by decide +kernel
theorem dL_areOrders_106 : decode cL_areOrders 106 = .ok (.iconst 1, 1) := by decide +kernel
theorem dL_areOrders_107 : decode cL_areOrders 107 = .ok (.goto 4, 3) := by decide +kernel
theorem dL_areOrders_110 : decode cL_areOrders 110 = .ok (.iconst 0, 1) := by decide +kernel
theorem dL_areOrders_111 : decode cL_areOrders 111 = .ok (.istore 7, 2) := by decide +kernel
theorem dL_areOrders_113 : decode cL_areOrders 113 = .ok (.iload 5, 2) := by decide +kernel
theorem dL_areOrders_115 : decode cL_areOrders 115 = .ok (.aload_n 2, 1) := by decide +kernel
theorem dL_areOrders_116 : decode cL_areOrders 116 = .ok (.bipush 50, 2) := by decide +kernel
theorem dL_areOrders_118 : decode cL_areOrders 118 = .ok (.iload 6, 2) := by decide +kernel
theorem dL_areOrders_120 : decode cL_areOrders 120 = .ok (.iadd, 1) := by decide +kernel
theorem dL_areOrders_121 : decode cL_areOrders 121 = .ok (.iaload, 1) := by decide +kernel
theorem dL_areOrders_122 : decode cL_areOrders 122 = .ok (.ifCond .le 12, 3) := by decide +kernel
theorem dL_areOrders_125 : decode cL_areOrders 125 = .ok (.iload 7, 2) := by decide +kernel
theorem dL_areOrders_127 : decode cL_areOrders 127 = .ok (.ifCond .eq 7, 3) := by decide +kernel
theorem dL_areOrders_130 : decode cL_areOrders 130 = .ok (.iconst 1, 1) := by decide +kernel
theorem dL_areOrders_131 : decode cL_areOrders 131 = .ok (.goto 4, 3) := by decide +kernel
theorem dL_areOrders_134 : decode cL_areOrders 134 = .ok (.iconst 0, 1) := by decide +kernel
theorem dL_areOrders_135 : decode cL_areOrders 135 = .ok (.iadd, 1) := by decide +kernel
theorem dL_areOrders_136 : decode cL_areOrders 136 = .ok (.istore 5, 2) := by decide +kernel
theorem dL_areOrders_138 : decode cL_areOrders 138 = .ok (.iinc 6 1, 3) := by decide +kernel
theorem dL_areOrders_141 : decode cL_areOrders 141 = .ok (.goto (-118), 3) := by decide +kernel
theorem dL_areOrders_144 : decode cL_areOrders 144 = .ok (.aload_n 0, 1) := by decide +kernel
theorem dL_areOrders_145 : decode cL_areOrders 145 = .ok (.iload 4, 2) := by decide +kernel
theorem dL_areOrders_147 : decode cL_areOrders 147 = .ok (.invokevirtual 45, 3) := by decide +kernel
theorem dL_areOrders_150 : decode cL_areOrders 150 = .ok (.aload_n 2, 1) := by decide +kernel
theorem dL_areOrders_151 : decode cL_areOrders 151 = .ok (.bipush 50, 2) := by decide +kernel
theorem dL_areOrders_153 : decode cL_areOrders 153 = .ok (.iload 4, 2) := by decide +kernel
theorem dL_areOrders_155 : decode cL_areOrders 155 = .ok (.iadd, 1) := by decide +kernel
theorem dL_areOrders_156 : decode cL_areOrders 156 = .ok (.iaload, 1) := by decide +kernel
theorem dL_areOrders_157 : decode cL_areOrders 157 = .ok (.ifCond .ne 7, 3) := by decide +kernel
theorem dL_areOrders_160 : decode cL_areOrders 160 = .ok (.iconst (-1), 1) := by decide +kernel
theorem dL_areOrders_161 : decode cL_areOrders 161 = .ok (.goto 5, 3) := by decide +kernel
theorem dL_areOrders_164 : decode cL_areOrders 164 = .ok (.iload 5, 2) := by decide +kernel
theorem dL_areOrders_166 : decode cL_areOrders 166 = .ok (.if_icmp .ne 7, 3) := by decide +kernel
theorem dL_areOrders_169 : decode cL_areOrders 169 = .ok (.iconst 1, 1) := by decide +kernel
theorem dL_areOrders_170 : decode cL_areOrders 170 = .ok (.goto 4, 3) := by decide +kernel
theorem dL_areOrders_173 : decode cL_areOrders 173 = .ok (.iconst 0, 1) := by decide +kernel
theorem dL_areOrders_174 : decode cL_areOrders 174 = .ok (.istore_n 3, 1) := by decide +kernel
theorem dL_areOrders_175 : decode cL_areOrders 175 = .ok (.iinc 4 1, 3) := by decide +kernel
theorem dL_areOrders_178 : decode cL_areOrders 178 = .ok (.goto (-173), 3) := by decide +kernel
theorem dL_areOrders_181 : decode cL_areOrders 181 = .ok (.iload_n 3, 1) := by decide +kernel
theorem dL_areOrders_182 : decode cL_areOrders 182 = .ok (.ireturn, 1) := by decide +kernel
theorem dL_hasWater_0 : decode cL_hasWater 0 = .ok (.aload_n 2, 1) := by decide +kernel
theorem dL_hasWater_1 : decode cL_hasWater 1 = .ok (.bipush 40, 2) := by decide +kernel
theorem dL_hasWater_3 : decode cL_hasWater 3 = .ok (.iload_n 3, 1) := by decide +kernel
theorem dL_hasWater_4 : decode cL_hasWater 4 = .ok (.iadd, 1) := by decide +kernel
theorem dL_hasWater_5 : decode cL_hasWater 5 = .ok (.iaload, 1) := by decide +kernel
theorem dL_hasWater_6 : decode cL_hasWater 6 = .ok (.ifCond .ne 8, 3) := by decide +kernel
theorem dL_hasWater_9 : decode cL_hasWater 9 = .ok (.bipush 30, 2) := by decide +kernel
theorem dL_hasWater_11 : decode cL_hasWater 11 = .ok (.goto 14, 3) := by decide +kernel
theorem dL_hasWater_14 : decode cL_hasWater 14 = .ok (.aload_n 1, 1) := by decide +kernel
theorem dL_hasWater_15 : decode cL_hasWater 15 = .ok (.bipush 8, 2) := by decide +kernel
theorem dL_hasWater_17 : decode cL_hasWater 17 = .ok (.aload_n 2, 1) := by decide +kernel
theorem dL_hasWater_18 : decode cL_hasWater 18 = .ok (.bipush 30, 2) := by decide +kernel
theorem dL_hasWater_20 : decode cL_hasWater 20 = .ok (.iload_n 3, 1) := by decide +kernel
theorem dL_hasWater_21 : decode cL_hasWater 21 = .ok (.iadd, 1) := by decide +kernel
theorem dL_hasWater_22 : decode cL_hasWater 22 = .ok (.iaload, 1) := by decide +kernel
theorem dL_hasWater_23 : decode cL_hasWater 23 = .ok (.iadd, 1) := by decide +kernel
theorem dL_hasWater_24 : decode cL_hasWater 24 = .ok (.iaload, 1) := by decide +kernel
theorem dL_hasWater_25 : decode cL_hasWater 25 = .ok (.istore 5, 2) := by decide +kernel
theorem dL_hasWater_27 : decode cL_hasWater 27 = .ok (.aload_n 2, 1) := by decide +kernel
theorem dL_hasWater_28 : decode cL_hasWater 28 = .ok (.bipush 40, 2) := by decide +kernel
theorem dL_hasWater_30 : decode cL_hasWater 30 = .ok (.iload_n 3, 1) := by decide +kernel
theorem dL_hasWater_31 : decode cL_hasWater 31 = .ok (.iadd, 1) := by decide +kernel
theorem dL_hasWater_32 : decode cL_hasWater 32 = .ok (.iaload, 1) := by decide +kernel
theorem dL_hasWater_33 : decode cL_hasWater 33 = .ok (.ifCond .ne 17, 3) := by decide +kernel
theorem dL_hasWater_36 : decode cL_hasWater 36 = .ok (.aload_n 1, 1) := by decide +kernel
theorem dL_hasWater_37 : decode cL_hasWater 37 = .ok (.bipush 8, 2) := by decide +kernel
theorem dL_hasWater_39 : decode cL_hasWater 39 = .ok (.aload_n 2, 1) := by decide +kernel
theorem dL_hasWater_40 : decode cL_hasWater 40 = .ok (.bipush 30, 2) := by decide +kernel
theorem dL_hasWater_42 : decode cL_hasWater 42 = .ok (.iload_n 3, 1) := by decide +kernel
theorem dL_hasWater_43 : decode cL_hasWater 43 = .ok (.iadd, 1) := by decide +kernel
theorem dL_hasWater_44 : decode cL_hasWater 44 = .ok (.iaload, 1) := by decide +kernel
theorem dL_hasWater_45 : decode cL_hasWater 45 = .ok (.iadd, 1) := by decide +kernel
theorem dL_hasWater_46 : decode cL_hasWater 46 = .ok (.iaload, 1) := by decide +kernel
theorem dL_hasWater_47 : decode cL_hasWater 47 = .ok (.goto 5, 3) := by decide +kernel
theorem dL_hasWater_50 : decode cL_hasWater 50 = .ok (.bipush 30, 2) := by decide +kernel
theorem dL_hasWater_52 : decode cL_hasWater 52 = .ok (.istore 6, 2) := by decide +kernel
theorem dL_hasWater_54 : decode cL_hasWater 54 = .ok (.aload_n 0, 1) := by decide +kernel
theorem dL_hasWater_55 : decode cL_hasWater 55 = .ok (.iload 4, 2) := by decide +kernel
theorem dL_hasWater_57 : decode cL_hasWater 57 = .ok (.invokevirtual 23, 3) := by decide +kernel
theorem dL_hasWater_60 : decode cL_hasWater 60 = .ok (.iload 5, 2) := by decide +kernel
theorem dL_hasWater_62 : decode cL_hasWater 62 = .ok (.iadd, 1) := by decide +kernel
theorem dL_hasWater_63 : decode cL_hasWater 63 = .ok (.aload_n 2, 1) := by decide +kernel
theorem dL_hasWater_64 : decode cL_hasWater 64 = .ok (.bipush 10, 2) := by decide +kernel
theorem dL_hasWater_66 : decode cL_hasWater 66 = .ok (.iload_n 3, 1) := by decide +kernel
theorem dL_hasWater_67 : decode cL_hasWater 67 = .ok (.iadd, 1) := by decide +kernel
theorem dL_hasWater_68 : decode cL_hasWater 68 = .ok (.iaload, 1) := by decide +kernel
theorem dL_hasWater_69 : decode cL_hasWater 69 = .ok (.iconst 5, 1) := by decide +kernel
theorem dL_hasWater_70 : decode cL_hasWater 70 = .ok (.iadd, 1) := by decide +kernel
theorem dL_hasWater_71 : decode cL_hasWater 71 = .ok (.if_icmp .lt 29, 3) := by decide +kernel
theorem dL_hasWater_74 : decode cL_hasWater 74 = .ok (.aload_n 0, 1) := by decide +kernel
theorem dL_hasWater_75 : decode cL_hasWater 75 = .ok (.iload 4, 2) := by decide +kernel
theorem dL_hasWater_77 : decode cL_hasWater 77 = .ok (.iconst 1, 1) := by decide +kernel
theorem dL_hasWater_78 : decode cL_hasWater 78 = .ok (.iadd, 1) := by decide +kernel
theorem dL_hasWater_79 : decode cL_hasWater 79 = .ok (.invokevirtual 23, 3) := by decide +kernel
theorem dL_hasWater_82 : decode cL_hasWater 82 = .ok (.iload 6, 2) := by decide +kernel
theorem dL_hasWater_84 : decode cL_hasWater 84 = .ok (.iadd, 1) := by decide +kernel
theorem dL_hasWater_85 : decode cL_hasWater 85 = .ok (.aload_n 2, 1) := by decide +kernel
theorem dL_hasWater_86 : decode cL_hasWater 86 = .ok (.bipush 10, 2) := by decide +kernel
theorem dL_hasWater_88 : decode cL_hasWater 88 = .ok (.iload_n 3, 1) := by decide +kernel
theorem dL_hasWater_89 : decode cL_hasWater 89 = .ok (.iadd, 1) := by decide +kernel
theorem dL_hasWater_90 : decode cL_hasWater 90 = .ok (.iaload, 1) := by decide +kernel
theorem dL_hasWater_91 : decode cL_hasWater 91 = .ok (.iconst 5, 1) := by decide +kernel
theorem dL_hasWater_92 : decode cL_hasWater 92 = .ok (.iadd, 1) := by decide +kernel
theorem dL_hasWater_93 : decode cL_hasWater 93 = .ok (.if_icmp .lt 7, 3) := by decide +kernel
theorem dL_hasWater_96 : decode cL_hasWater 96 = .ok (.iconst 1, 1) := by decide +kernel
theorem dL_hasWater_97 : decode cL_hasWater 97 = .ok (.goto 4, 3) := by decide +kernel
theorem dL_hasWater_100 : decode cL_hasWater 100 = .ok (.iconst 0, 1) := by decide +kernel
theorem dL_hasWater_101 : decode cL_hasWater 101 = .ok (.istore 7, 2) := by decide +kernel
theorem dL_hasWater_103 : decode cL_hasWater 103 = .ok (.iload 7, 2) := by decide +kernel
theorem dL_hasWater_105 : decode cL_hasWater 105 = .ok (.ifCond .eq 26, 3) := by decide +kernel
theorem dL_hasWater_108 : decode cL_hasWater 108 = .ok (.aload_n 2, 1) := by decide +kernel
theorem dL_hasWater_109 : decode cL_hasWater 109 = .ok (.bipush 40, 2) := by decide +kernel
theorem dL_hasWater_111 : decode cL_hasWater 111 = .ok (.iload_n 3, 1) := by decide +kernel
theorem dL_hasWater_112 : decode cL_hasWater 112 = .ok (.iadd, 1) := by decide +kernel
theorem dL_hasWater_113 : decode cL_hasWater 113 = .ok (.iaload, 1) := by decide +kernel
theorem dL_hasWater_114 : decode cL_hasWater 114 = .ok (.ifCond .eq 13, 3) := by decide +kernel
theorem dL_hasWater_117 : decode cL_hasWater 117 = .ok (.aload_n 2, 1) := by decide +kernel
theorem dL_hasWater_118 : decode cL_hasWater 118 = .ok (.bipush 40, 2) := by decide +kernel
theorem dL_hasWater_120 : decode cL_hasWater 120 = .ok (.iload_n 3, 1) := by decide +kernel
theorem dL_hasWater_121 : decode cL_hasWater 121 = .ok (.iadd, 1) := by decide +kernel
theorem dL_hasWater_122 : decode cL_hasWater 122 = .ok (.iaload, 1) := by decide +kernel
theorem dL_hasWater_123 : decode cL_hasWater 123 = .ok (.iconst 2, 1) := by decide +kernel
theorem dL_hasWater_124 : decode cL_hasWater 124 = .ok (.if_icmp .ne 7, 3) := by decide +kernel
theorem dL_hasWater_127 : decode cL_hasWater 127 = .ok (.iconst 1, 1) := by decide +kernel
theorem dL_hasWater_128 : decode cL_hasWater 128 = .ok (.goto 4, 3) := by decide +kernel
theorem dL_hasWater_131 : decode cL_hasWater 131 = .ok (.iconst 0, 1) := by decide +kernel
theorem dL_hasWater_132 : decode cL_hasWater 132 = .ok (.ireturn, 1) := by decide +kernel
theorem dL_hours_0 : decode cL_hours 0 = .ok (.aload_n 1, 1) := by decide +kernel
theorem dL_hours_1 : decode cL_hours 1 = .ok (.iconst 0, 1) := by decide +kernel
theorem dL_hours_2 : decode cL_hours 2 = .ok (.iaload, 1) := by decide +kernel
theorem dL_hours_3 : decode cL_hours 3 = .ok (.sipush 2990, 3) := by decide +kernel
theorem dL_hours_6 : decode cL_hours 6 = .ok (.if_icmp .le 19, 3) := by decide +kernel
theorem dL_hours_9 : decode cL_hours 9 = .ok (.aload_n 0, 1) := by decide +kernel
theorem dL_hours_10 : decode cL_hours 10 = .ok (.invokevirtual 29, 3) := by decide +kernel
theorem dL_hours_13 : decode cL_hours 13 = .ok (.aload_n 1, 1) := by decide +kernel
theorem dL_hours_14 : decode cL_hours 14 = .ok (.iconst 2, 1) := by decide +kernel
theorem dL_hours_15 : decode cL_hours 15 = .ok (.iaload, 1) := by decide +kernel
theorem dL_hours_16 : decode cL_hours 16 = .ok (.if_icmp .ne 7, 3) := by decide +kernel
theorem dL_hours_19 : decode cL_hours 19 = .ok (.iconst 1, 1) := by decide +kernel
theorem dL_hours_20 : decode cL_hours 20 = .ok (.goto 4, 3) := by decide +kernel
theorem dL_hours_23 : decode cL_hours 23 = .ok (.iconst 0, 1) := by decide +kernel
theorem dL_hours_24 : decode cL_hours 24 = .ok (.ireturn, 1) := by decide +kernel
theorem dL_hours_25 : decode cL_hours 25 = .ok (.iconst 0, 1) := by decide +kernel
theorem dL_hours_26 : decode cL_hours 26 = .ok (.istore_n 3, 1) := by decide +kernel
theorem dL_hours_27 : decode cL_hours 27 = .ok (.iconst 0, 1) := by decide +kernel
theorem dL_hours_28 : decode cL_hours 28 = .ok (.istore 4, 2) := by decide +kernel
theorem dL_hours_30 : decode cL_hours 30 = .ok (.iconst 0, 1) := by decide +kernel
theorem dL_hours_31 : decode cL_hours 31 = .ok (.istore 5, 2) := by decide +kernel
theorem dL_hours_33 : decode cL_hours 33 = .ok (.iload 5, 2) := by decide +kernel
theorem dL_hours_35 : decode cL_hours 35 = .ok (.aload_n 1, 1) := by decide +kernel
theorem dL_hours_36 : decode cL_hours 36 = .ok (.iconst 1, 1) := by decide +kernel
theorem dL_hours_37 : decode cL_hours 37 = .ok (.iaload, 1) := by decide +kernel
theorem dL_hours_38 : decode cL_hours 38 = .ok (.if_icmp .ge 29, 3) := by decide +kernel
theorem dL_hours_41 : decode cL_hours 41 = .ok (.iload_n 3, 1) := by decide +kernel
theorem dL_hours_42 : decode cL_hours 42 = .ok (.aload_n 0, 1) := by decide +kernel
theorem dL_hours_43 : decode cL_hours 43 = .ok (.iload 5, 2) := by decide +kernel
theorem dL_hours_45 : decode cL_hours 45 = .ok (.invokevirtual 91, 3) := by decide +kernel
theorem dL_hours_48 : decode cL_hours 48 = .ok (.isub, 1) := by decide +kernel
theorem dL_hours_49 : decode cL_hours 49 = .ok (.istore_n 3, 1) := by decide +kernel
theorem dL_hours_50 : decode cL_hours 50 = .ok (.iload 4, 2) := by decide +kernel
theorem dL_hours_52 : decode cL_hours 52 = .ok (.aload_n 0, 1) := by decide +kernel
theorem dL_hours_53 : decode cL_hours 53 = .ok (.iload 5, 2) := by decide +kernel
theorem dL_hours_55 : decode cL_hours 55 = .ok (.invokevirtual 61, 3) := by decide +kernel
theorem dL_hours_58 : decode cL_hours 58 = .ok (.isub, 1) := by decide +kernel
theorem dL_hours_59 : decode cL_hours 59 = .ok (.istore 4, 2) := by decide +kernel
theorem dL_hours_61 : decode cL_hours 61 = .ok (.iinc 5 1, 3) := by decide +kernel
theorem dL_hours_64 : decode cL_hours 64 = .ok (.goto (-31), 3) := by decide +kernel
theorem dL_hours_67 : decode cL_hours 67 = .ok (.aload_n 0, 1) := by decide +kernel
theorem dL_hours_68 : decode cL_hours 68 = .ok (.iconst 1, 1) := by decide +kernel
theorem dL_hours_69 : decode cL_hours 69 = .ok (.invokevirtual 94, 3) := by decide +kernel
theorem dL_hours_72 : decode cL_hours 72 = .ok (.istore 5, 2) := by decide +kernel
theorem dL_hours_74 : decode cL_hours 74 = .ok (.aload_n 1, 1) := by decide +kernel
theorem dL_hours_75 : decode cL_hours 75 = .ok (.iconst 0, 1) := by decide +kernel
theorem dL_hours_76 : decode cL_hours 76 = .ok (.dup2, 1) := by decide +kernel
theorem dL_hours_77 : decode cL_hours 77 = .ok (.iaload, 1) := by decide +kernel
theorem dL_hours_78 : decode cL_hours 78 = .ok (.iconst 1, 1) := by decide +kernel
theorem dL_hours_79 : decode cL_hours 79 = .ok (.iadd, 1) := by decide +kernel
theorem dL_hours_80 : decode cL_hours 80 = .ok (.iastore, 1) := by decide +kernel
theorem dL_hours_81 : decode cL_hours 81 = .ok (.aload_n 0, 1) := by decide +kernel
theorem dL_hours_82 : decode cL_hours 82 = .ok (.invokevirtual 29, 3) := by decide +kernel
theorem dL_hours_85 : decode cL_hours 85 = .ok (.aload_n 1, 1) := by decide +kernel
theorem dL_hours_86 : decode cL_hours 86 = .ok (.iconst 2, 1) := by decide +kernel
theorem dL_hours_87 : decode cL_hours 87 = .ok (.iaload, 1) := by decide +kernel
theorem dL_hours_88 : decode cL_hours 88 = .ok (.iload 5, 2) := by decide +kernel
theorem dL_hours_90 : decode cL_hours 90 = .ok (.iadd, 1) := by decide +kernel
theorem dL_hours_91 : decode cL_hours 91 = .ok (.if_icmp .ne 14, 3) := by decide +kernel
theorem dL_hours_94 : decode cL_hours 94 = .ok (.iload 5, 2) := by decide +kernel
theorem dL_hours_96 : decode cL_hours 96 = .ok (.bipush 6, 2) := by decide +kernel
theorem dL_hours_98 : decode cL_hours 98 = .ok (.if_icmp .gt 7, 3) := by decide +kernel
theorem dL_hours_101 : decode cL_hours 101 = .ok (.iconst 1, 1) := by decide +kernel
theorem dL_hours_102 : decode cL_hours 102 = .ok (.goto 4, 3) := by decide +kernel
theorem dL_hours_105 : decode cL_hours 105 = .ok (.iconst 0, 1) := by decide +kernel
theorem dL_hours_106 : decode cL_hours 106 = .ok (.istore 6, 2) := by decide +kernel
theorem dL_hours_108 : decode cL_hours 108 = .ok (.iconst 0, 1) := by decide +kernel
theorem dL_hours_109 : decode cL_hours 109 = .ok (.istore 7, 2) := by decide +kernel
theorem dL_hours_111 : decode cL_hours 111 = .ok (.iload 7, 2) := by decide +kernel
theorem dL_hours_113 : decode cL_hours 113 = .ok (.iload 5, 2) := by decide +kernel
theorem dL_hours_115 : decode cL_hours 115 = .ok (.if_icmp .ge 28, 3) := by decide +kernel
theorem dL_hours_118 : decode cL_hours 118 = .ok (.iload 6, 2) := by decide +kernel
theorem dL_hours_120 : decode cL_hours 120 = .ok (.ifCond .eq 23, 3) := by decide +kernel
theorem dL_hours_123 : decode cL_hours 123 = .ok (.aload_n 0, 1) := by decide +kernel
theorem dL_hours_124 : decode cL_hours 124 = .ok (.aload_n 1, 1) := by decide +kernel
theorem dL_hours_125 : decode cL_hours 125 = .ok (.aload_n 2, 1) := by decide +kernel
theorem dL_hours_126 : decode cL_hours 126 = .ok (.aload_n 1, 1) := by decide +kernel
theorem dL_hours_127 : decode cL_hours 127 = .ok (.iconst 2, 1) := by decide +kernel
theorem dL_hours_128 : decode cL_hours 128 = .ok (.iaload, 1) := by decide +kernel
theorem dL_hours_129 : decode cL_hours 129 = .ok (.iload 7, 2) := by decide +kernel
theorem dL_hours_131 : decode cL_hours 131 = .ok (.iadd, 1) := by decide +kernel
theorem dL_hours_132 : decode cL_hours 132 = .ok (.invokestatic 97, 3) := by decide +kernel
theorem dL_hours_135 : decode cL_hours 135 = .ok (.istore 6, 2) := by decide +kernel
theorem dL_hours_137 : decode cL_hours 137 = .ok (.iinc 7 1, 3) := by decide +kernel
theorem dL_hours_140 : decode cL_hours 140 = .ok (.goto (-29), 3) := by decide +kernel
theorem dL_hours_143 : decode cL_hours 143 = .ok (.aload_n 1, 1) := by decide +kernel
theorem dL_hours_144 : decode cL_hours 144 = .ok (.iconst 2, 1) := by decide +kernel
theorem dL_hours_145 : decode cL_hours 145 = .ok (.dup2, 1) := by decide +kernel
theorem dL_hours_146 : decode cL_hours 146 = .ok (.iaload, 1) := by decide +kernel
theorem dL_hours_147 : decode cL_hours 147 = .ok (.iload 5, 2) := by decide +kernel
theorem dL_hours_149 : decode cL_hours 149 = .ok (.iadd, 1) := by decide +kernel
theorem dL_hours_150 : decode cL_hours 150 = .ok (.iastore, 1) := by decide +kernel
theorem dL_hours_151 : decode cL_hours 151 = .ok (.iconst 0, 1) := by decide +kernel
theorem dL_hours_152 : decode cL_hours 152 = .ok (.istore 7, 2) := by decide +kernel
theorem dL_hours_154 : decode cL_hours 154 = .ok (.iconst 0, 1) := by decide +kernel
theorem dL_hours_155 : decode cL_hours 155 = .ok (.istore 8, 2) := by decide +kernel
theorem dL_hours_157 : decode cL_hours 157 = .ok (.iload 8, 2) := by decide +kernel
theorem dL_hours_159 : decode cL_hours 159 = .ok (.aload_n 1, 1) := by decide +kernel
theorem dL_hours_160 : decode cL_hours 160 = .ok (.iconst 1, 1) := by decide +kernel
theorem dL_hours_161 : decode cL_hours 161 = .ok (.iaload, 1) := by decide +kernel
theorem dL_hours_162 : decode cL_hours 162 = .ok (.if_icmp .ge 184, 3) := by decide +kernel
theorem dL_hours_165 : decode cL_hours 165 = .ok (.iload 6, 2) := by decide +kernel
theorem dL_hours_167 : decode cL_hours 167 = .ok (.ifCond .eq 179, 3) := by decide +kernel
theorem dL_hours_170 : decode cL_hours 170 = .ok (.aload_n 0, 1) := by decide +kernel
theorem dL_hours_171 : decode cL_hours 171 = .ok (.iload 8, 2) := by decide +kernel
theorem dL_hours_173 : decode cL_hours 173 = .ok (.invokevirtual 45, 3) := by decide +kernel
theorem dL_hours_176 : decode cL_hours 176 = .ok (.iconst (-1), 1) := by decide +kernel
theorem dL_hours_177 : decode cL_hours 177 = .ok (.if_icmp .eq 7, 3) := by decide +kernel
theorem dL_hours_180 : decode cL_hours 180 = .ok (.iconst 1, 1) := by decide +kernel
theorem dL_hours_181 : decode cL_hours 181 = .ok (.goto 4, 3) := by decide +kernel
theorem dL_hours_184 : decode cL_hours 184 = .ok (.iconst 0, 1) := by decide +kernel
theorem dL_hours_185 : decode cL_hours 185 = .ok (.istore 9, 2) := by decide +kernel
theorem dL_hours_187 : decode cL_hours 187 = .ok (.aload_n 0, 1) := by decide +kernel
theorem dL_hours_188 : decode cL_hours 188 = .ok (.iload 8, 2) := by decide +kernel
theorem dL_hours_190 : decode cL_hours 190 = .ok (.invokevirtual 80, 3) := by decide +kernel
theorem dL_hours_193 : decode cL_hours 193 = .ok (.istore 10, 2) := by decide +kernel
theorem dL_hours_195 : decode cL_hours 195 = .ok (.iload 7, 2) := by decide +kernel
theorem dL_hours_197 : decode cL_hours 197 = .ok (.aload_n 2, 1) := by decide +kernel
theorem dL_hours_198 : decode cL_hours 198 = .ok (.bipush 50, 2) := by decide +kernel
theorem dL_hours_200 : decode cL_hours 200 = .ok (.iload 8, 2) := by decide +kernel
theorem dL_hours_202 : decode cL_hours 202 = .ok (.iadd, 1) := by decide +kernel
theorem dL_hours_203 : decode cL_hours 203 = .ok (.iaload, 1) := by decide +kernel
theorem dL_hours_204 : decode cL_hours 204 = .ok (.ifCond .le 12, 3) := by decide +kernel
theorem dL_hours_207 : decode cL_hours 207 = .ok (.iload 9, 2) := by decide +kernel
theorem dL_hours_209 : decode cL_hours 209 = .ok (.ifCond .ne 7, 3) := by decide +kernel
theorem dL_hours_212 : decode cL_hours 212 = .ok (.iconst 1, 1) := by decide +kernel
theorem dL_hours_213 : decode cL_hours 213 = .ok (.goto 4, 3) := by decide +kernel
theorem dL_hours_216 : decode cL_hours 216 = .ok (.iconst 0, 1) := by decide +kernel
theorem dL_hours_217 : decode cL_hours 217 = .ok (.iadd, 1) := by decide +kernel
theorem dL_hours_218 : decode cL_hours 218 = .ok (.istore 7, 2) := by decide +kernel
theorem dL_hours_220 : decode cL_hours 220 = .ok (.aload_n 2, 1) := by decide +kernel
theorem dL_hours_221 : decode cL_hours 221 = .ok (.bipush 50, 2) := by decide +kernel
theorem dL_hours_223 : decode cL_hours 223 = .ok (.iload 8, 2) := by decide +kernel
theorem dL_hours_225 : decode cL_hours 225 = .ok (.iadd, 1) := by decide +kernel
theorem dL_hours_226 : decode cL_hours 226 = .ok (.iaload, 1) := by decide +kernel
theorem dL_hours_227 : decode cL_hours 227 = .ok (.ifCond .gt 8, 3) := by decide +kernel
theorem dL_hours_230 : decode cL_hours 230 = .ok (.iload 9, 2) := by decide +kernel
theorem dL_hours_232 : decode cL_hours 232 = .ok (.ifCond .ne 53, 3) := by decide +kernel
theorem dL_hours_235 : decode cL_hours 235 = .ok (.iload 9, 2) := by decide +kernel
theorem dL_hours_237 : decode cL_hours 237 = .ok (.ifCond .eq 18, 3) := by decide +kernel
theorem dL_hours_240 : decode cL_hours 240 = .ok (.aload_n 2, 1) := by decide +kernel
theorem dL_hours_241 : decode cL_hours 241 = .ok (.bipush 50, 2) := by decide +kernel
theorem dL_hours_243 : decode cL_hours 243 = .ok (.iload 8, 2) := by decide +kernel
theorem dL_hours_245 : decode cL_hours 245 = .ok (.iadd, 1) := by decide +kernel
theorem dL_hours_246 : decode cL_hours 246 = .ok (.iaload, 1) := by decide +kernel
theorem dL_hours_247 : decode cL_hours 247 = .ok (.aload_n 1, 1) := by decide +kernel
theorem dL_hours_248 : decode cL_hours 248 = .ok (.iconst 0, 1) := by decide +kernel
theorem dL_hours_249 : decode cL_hours 249 = .ok (.iaload, 1) := by decide +kernel
theorem dL_hours_250 : decode cL_hours 250 = .ok (.iconst 3, 1) := by decide +kernel
theorem dL_hours_251 : decode cL_hours 251 = .ok (.isub, 1) := by decide +kernel
theorem dL_hours_252 : decode cL_hours 252 = .ok (.if_icmp .le 33, 3) := by decide +kernel
theorem dL_hours_255 : decode cL_hours 255 = .ok (.iload 10, 2) := by decide +kernel
theorem dL_hours_257 : decode cL_hours 257 = .ok (.aload_n 2, 1) := by decide +kernel
theorem dL_hours_258 : decode cL_hours 258 = .ok (.bipush 40, 2) := by decide +kernel
theorem dL_hours_260 : decode cL_hours 260 = .ok (.iload 8, 2) := by decide +kernel
theorem dL_hours_262 : decode cL_hours 262 = .ok (.iadd, 1) := by decide +kernel
theorem dL_hours_263 : decode cL_hours 263 = .ok (.iaload, 1) := by decide +kernel
theorem dL_hours_264 : decode cL_hours 264 = .ok (.if_icmp .eq 17, 3) := by decide +kernel
theorem dL_hours_267 : decode cL_hours 267 = .ok (.iload 10, 2) := by decide +kernel
theorem dL_hours_269 : decode cL_hours 269 = .ok (.aload_n 2, 1) := by decide +kernel
theorem dL_hours_270 : decode cL_hours 270 = .ok (.bipush 40, 2) := by decide +kernel
theorem dL_hours_272 : decode cL_hours 272 = .ok (.iload 8, 2) := by decide +kernel
theorem dL_hours_274 : decode cL_hours 274 = .ok (.iadd, 1) := by decide +kernel
theorem dL_hours_275 : decode cL_hours 275 = .ok (.iaload, 1) := by decide +kernel
theorem dL_hours_276 : decode cL_hours 276 = .ok (.iconst 1, 1) := by decide +kernel
theorem dL_hours_277 : decode cL_hours 277 = .ok (.iadd, 1) := by decide +kernel
theorem dL_hours_278 : decode cL_hours 278 = .ok (.if_icmp .ne 7, 3) := by decide +kernel
theorem dL_hours_281 : decode cL_hours 281 = .ok (.iconst 1, 1) := by decide +kernel
theorem dL_hours_282 : decode cL_hours 282 = .ok (.goto 4, 3) := by decide +kernel
theorem dL_hours_285 : decode cL_hours 285 = .ok (.iconst 0, 1) := by decide +kernel
end
