theorem dX7_init_0 : decode cX7_init 0 = .ok (.aload_n 0, 1) := by decide +kernel
theorem dX7_init_1 : decode cX7_init 1 = .ok (.invokespecial 1, 3) := by decide +kernel
theorem dX7_init_4 : decode cX7_init 4 = .ok (.aload_n 0, 1) := by decide +kernel
theorem dX7_init_5 : decode cX7_init 5 = .ok (.bipush 12, 2) := by decide +kernel
theorem dX7_init_7 : decode cX7_init 7 = .ok (.newarray .int, 2) := by decide +kernel
theorem dX7_init_9 : decode cX7_init 9 = .ok (.putfield 7, 3) := by decide +kernel
theorem dX7_init_12 : decode cX7_init 12 = .ok (.aload_n 0, 1) := by decide +kernel
theorem dX7_init_13 : decode cX7_init 13 = .ok (.sipush 3160, 3) := by decide +kernel
theorem dX7_init_16 : decode cX7_init 16 = .ok (.newarray .int, 2) := by decide +kernel
theorem dX7_init_18 : decode cX7_init 18 = .ok (.putfield 13, 3) := by decide +kernel
theorem dX7_init_21 : decode cX7_init 21 = .ok (.aload_n 0, 1) := by decide +kernel
theorem dX7_init_22 : decode cX7_init 22 = .ok (.bipush 6, 2) := by decide +kernel
theorem dX7_init_24 : decode cX7_init 24 = .ok (.newarray .int, 2) := by decide +kernel
theorem dX7_init_26 : decode cX7_init 26 = .ok (.putfield 16, 3) := by decide +kernel
theorem dX7_init_29 : decode cX7_init 29 = .ok (.aload_n 0, 1) := by decide +kernel
theorem dX7_init_30 : decode cX7_init 30 = .ok (.bipush 30, 2) := by decide +kernel
theorem dX7_init_32 : decode cX7_init 32 = .ok (.newarray .int, 2) := by decide +kernel
theorem dX7_init_34 : decode cX7_init 34 = .ok (.putfield 19, 3) := by decide +kernel
theorem dX7_init_37 : decode cX7_init 37 = .ok (.aload_n 0, 1) := by decide +kernel
theorem dX7_init_38 : decode cX7_init 38 = .ok (.bipush 30, 2) := by decide +kernel
theorem dX7_init_40 : decode cX7_init 40 = .ok (.newarray .int, 2) := by decide +kernel
theorem dX7_init_42 : decode cX7_init 42 = .ok (.putfield 22, 3) := by decide +kernel
theorem dX7_init_45 : decode cX7_init 45 = .ok (.aload_n 0, 1) := by decide +kernel
theorem dX7_init_46 : decode cX7_init 46 = .ok (.bipush 30, 2) := by decide +kernel
theorem dX7_init_48 : decode cX7_init 48 = .ok (.newarray .int, 2) := by decide +kernel
theorem dX7_init_50 : decode cX7_init 50 = .ok (.putfield 25, 3) := by decide +kernel
theorem dX7_init_53 : decode cX7_init 53 = .ok (.aload_n 0, 1) := by decide +kernel
theorem dX7_init_54 : decode cX7_init 54 = .ok (.bipush 30, 2) := by decide +kernel
theorem dX7_init_56 : decode cX7_init 56 = .ok (.newarray .int, 2) := by decide +kernel
theorem dX7_init_58 : decode cX7_init 58 = .ok (.putfield 28, 3) := by decide +kernel
theorem dX7_init_61 : decode cX7_init 61 = .ok (.aload_n 0, 1) := by decide +kernel
theorem dX7_init_62 : decode cX7_init 62 = .ok (.bipush 30, 2) := by decide +kernel
theorem dX7_init_64 : decode cX7_init 64 = .ok (.newarray .int, 2) := by decide +kernel
theorem dX7_init_66 : decode cX7_init 66 = .ok (.putfield 31, 3) := by decide +kernel
theorem dX7_init_69 : decode cX7_init 69 = .ok (.aload_n 0, 1) := by decide +kernel
theorem dX7_init_70 : decode cX7_init 70 = .ok (.bipush 30, 2) := by decide +kernel
theorem dX7_init_72 : decode cX7_init 72 = .ok (.newarray .int, 2) := by decide +kernel
theorem dX7_init_74 : decode cX7_init 74 = .ok (.putfield 34, 3) := by decide +kernel
theorem dX7_init_77 : decode cX7_init 77 = .ok (.aload_n 0, 1) := by decide +kernel
theorem dX7_init_78 : decode cX7_init 78 = .ok (.bipush 30, 2) := by decide +kernel
theorem dX7_init_80 : decode cX7_init 80 = .ok (.newarray .int, 2) := by decide +kernel
theorem dX7_init_82 : decode cX7_init 82 = .ok (.putfield 37, 3) := by decide +kernel
theorem dX7_init_85 : decode cX7_init 85 = .ok (.aload_n 0, 1) := by decide +kernel
theorem dX7_init_86 : decode cX7_init 86 = .ok (.bipush 30, 2) := by decide +kernel
theorem dX7_init_88 : decode cX7_init 88 = .ok (.newarray .int, 2) := by decide +kernel
theorem dX7_init_90 : decode cX7_init 90 = .ok (.putfield 40, 3) := by decide +kernel
theorem dX7_init_93 : decode cX7_init 93 = .ok (.aload_n 0, 1) := by decide +kernel
theorem dX7_init_94 : decode cX7_init 94 = .ok (.bipush 30, 2) := by decide +kernel
theorem dX7_init_96 : decode cX7_init 96 = .ok (.newarray .int, 2) := by decide +kernel
theorem dX7_init_98 : decode cX7_init 98 = .ok (.putfield 43, 3) := by decide +kernel
theorem dX7_init_101 : decode cX7_init 101 = .ok (.aload_n 0, 1) := by decide +kernel
theorem dX7_init_102 : decode cX7_init 102 = .ok (.bipush 30, 2) := by decide +kernel
theorem dX7_init_104 : decode cX7_init 104 = .ok (.newarray .int, 2) := by decide +kernel
theorem dX7_init_106 : decode cX7_init 106 = .ok (.putfield 46, 3) := by decide +kernel
theorem dX7_init_109 : decode cX7_init 109 = .ok (.aload_n 0, 1) := by decide +kernel
theorem dX7_init_110 : decode cX7_init 110 = .ok (.bipush 6, 2) := by decide +kernel
theorem dX7_init_112 : decode cX7_init 112 = .ok (.newarray .int, 2) := by decide +kernel
theorem dX7_init_114 : decode cX7_init 114 = .ok (.putfield 49, 3) := by decide +kernel
theorem dX7_init_117 : decode cX7_init 117 = .ok (.aload_n 0, 1) := by decide +kernel
theorem dX7_init_118 : decode cX7_init 118 = .ok (.bipush 6, 2) := by decide +kernel
theorem dX7_init_120 : decode cX7_init 120 = .ok (.newarray .int, 2) := by decide +kernel
theorem dX7_init_122 : decode cX7_init 122 = .ok (.putfield 52, 3) := by decide +kernel
theorem dX7_init_125 : decode cX7_init 125 = .ok (.aload_n 0, 1) := by decide +kernel
theorem dX7_init_126 : decode cX7_init 126 = .ok (.bipush 100, 2) := by decide +kernel
theorem dX7_init_128 : decode cX7_init 128 = .ok (.newarray .int, 2) := by decide +kernel
theorem dX7_init_130 : decode cX7_init 130 = .ok (.putfield 55, 3) := by decide +kernel
theorem dX7_init_133 : decode cX7_init 133 = .ok (.aload_n 0, 1) := by decide +kernel
theorem dX7_init_134 : decode cX7_init 134 = .ok (.bipush 100, 2) := by decide +kernel
theorem dX7_init_136 : decode cX7_init 136 = .ok (.newarray .int, 2) := by decide +kernel
theorem dX7_init_138 : decode cX7_init 138 = .ok (.putfield 58, 3) := by decide +kernel
theorem dX7_init_141 : decode cX7_init 141 = .ok (.aload_n 0, 1) := by decide +kernel
theorem dX7_init_142 : decode cX7_init 142 = .ok (.bipush 100, 2) := by decide +kernel
theorem dX7_init_144 : decode cX7_init 144 = .ok (.newarray .int, 2) := by decide +kernel
theorem dX7_init_146 : decode cX7_init 146 = .ok (.putfield 61, 3) := by decide +kernel
theorem dX7_init_149 : decode cX7_init 149 = .ok (.aload_n 0, 1) := by decide +kernel
theorem dX7_init_150 : decode cX7_init 150 = .ok (.bipush 100, 2) := by decide +kernel
theorem dX7_init_152 : decode cX7_init 152 = .ok (.newarray .int, 2) := by decide +kernel
theorem dX7_init_154 : decode cX7_init 154 = .ok (.putfield 64, 3) := by decide +kernel
theorem dX7_init_157 : decode cX7_init 157 = .ok (.aload_n 0, 1) := by decide +kernel
theorem dX7_init_158 : decode cX7_init 158 = .ok (.bipush 100, 2) := by decide +kernel
theorem dX7_init_160 : decode cX7_init 160 = .ok (.newarray .boolean, 2) := by decide +kernel
theorem dX7_init_162 : decode cX7_init 162 = .ok (.putfield 67, 3) := by decide +kernel
theorem dX7_init_165 : decode cX7_init 165 = .ok (.iconst 0, 1) := by decide +kernel
theorem dX7_init_166 : decode cX7_init 166 = .ok (.istore_n 1, 1) := by decide +kernel
theorem dX7_init_167 : decode cX7_init 167 = .ok (.iload_n 1, 1) := by decide +kernel
theorem dX7_init_168 : decode cX7_init 168 = .ok (.bipush 12, 2) := by decide +kernel
theorem dX7_init_170 : decode cX7_init 170 = .ok (.if_icmp .ge 17, 3) := by decide +kernel
theorem dX7_init_173 : decode cX7_init 173 = .ok (.aload_n 0, 1) := by decide +kernel
theorem dX7_init_174 : decode cX7_init 174 = .ok (.getfield 7, 3) := by decide +kernel
theorem dX7_init_177 : decode cX7_init 177 = .ok (.iload_n 1, 1) := by decide +kernel
theorem dX7_init_178 : decode cX7_init 178 = .ok (.bipush 50, 2) := by decide +kernel
theorem dX7_init_180 : decode cX7_init 180 = .ok (.iastore, 1) := by decide +kernel
theorem dX7_init_181 : decode cX7_init 181 = .ok (.iinc 1 1, 3) := by decide +kernel
theorem dX7_init_184 : decode cX7_init 184 = .ok (.goto (-17), 3) := by decide +kernel
theorem dX7_init_187 : decode cX7_init 187 = .ok (.iconst 0, 1) := by decide +kernel
theorem dX7_init_188 : decode cX7_init 188 = .ok (.istore_n 1, 1) := by decide +kernel
theorem dX7_init_189 : decode cX7_init 189 = .ok (.iload_n 1, 1) := by decide +kernel
theorem dX7_init_190 : decode cX7_init 190 = .ok (.bipush 6, 2) := by decide +kernel
theorem dX7_init_192 : decode cX7_init 192 = .ok (.if_icmp .ge 24, 3) := by decide +kernel
theorem dX7_init_195 : decode cX7_init 195 = .ok (.aload_n 0, 1) := by decide +kernel
theorem dX7_init_196 : decode cX7_init 196 = .ok (.getfield 16, 3) := by decide +kernel
theorem dX7_init_199 : decode cX7_init 199 = .ok (.iload_n 1, 1) := by decide +kernel
theorem dX7_init_200 : decode cX7_init 200 = .ok (.bipush 60, 2) := by decide +kernel
theorem dX7_init_202 : decode cX7_init 202 = .ok (.iastore, 1) := by decide +kernel
theorem dX7_init_203 : decode cX7_init 203 = .ok (.aload_n 0, 1) := by decide +kernel
theorem dX7_init_204 : decode cX7_init 204 = .ok (.getfield 49, 3) := by decide +kernel
theorem dX7_init_207 : decode cX7_init 207 = .ok (.iload_n 1, 1) := by decide +kernel
theorem dX7_init_208 : decode cX7_init 208 = .ok (.iload_n 1, 1) := by decide +kernel
theorem dX7_init_209 : decode cX7_init 209 = .ok (.iastore, 1) := by decide +kernel
theorem dX7_init_210 : decode cX7_init 210 = .ok (.iinc 1 1, 3) := by decide +kernel
theorem dX7_init_213 : decode cX7_init 213 = .ok (.goto (-24), 3) := by decide +kernel
theorem dX7_init_216 : decode cX7_init 216 = .ok (.return_, 1) := by decide +kernel
theorem dX7_thrown_0 : decode cX7_thrown 0 = .ok (.aload_n 0, 1) := by decide +kernel
theorem dX7_thrown_1 : decode cX7_thrown 1 = .ok (.getfield 71, 3) := by decide +kernel
theorem dX7_thrown_4 : decode cX7_thrown 4 = .ok (.ireturn, 1) := by decide +kernel
theorem dX7_holds_0 : decode cX7_holds 0 = .ok (.aload_n 0, 1) := by decide +kernel
theorem dX7_holds_1 : decode cX7_holds 1 = .ok (.iload_n 1, 1) := by decide +kernel
theorem dX7_holds_2 : decode cX7_holds 2 = .ok (.putfield 71, 3) := by decide +kernel
theorem dX7_holds_5 : decode cX7_holds 5 = .ok (.iload_n 1, 1) := by decide +kernel
theorem dX7_holds_6 : decode cX7_holds 6 = .ok (.ifCond .ne 7, 3) := by decide +kernel
theorem dX7_holds_9 : decode cX7_holds 9 = .ok (.iconst 1, 1) := by decide +kernel
theorem dX7_holds_10 : decode cX7_holds 10 = .ok (.goto 4, 3) := by decide +kernel
theorem dX7_holds_13 : decode cX7_holds 13 = .ok (.iconst 0, 1) := by decide +kernel
theorem dX7_holds_14 : decode cX7_holds 14 = .ok (.ireturn, 1) := by decide +kernel
theorem dX7_isIn_0 : decode cX7_isIn 0 = .ok (.iload_n 0, 1) := by decide +kernel
theorem dX7_isIn_1 : decode cX7_isIn 1 = .ok (.iload_n 1, 1) := by decide +kernel
theorem dX7_isIn_2 : decode cX7_isIn 2 = .ok (.if_icmp .lt 12, 3) := by decide +kernel
theorem dX7_isIn_5 : decode cX7_isIn 5 = .ok (.iload_n 0, 1) := by decide +kernel
theorem dX7_isIn_6 : decode cX7_isIn 6 = .ok (.iload_n 2, 1) := by decide +kernel
theorem dX7_isIn_7 : decode cX7_isIn 7 = .ok (.if_icmp .gt 7, 3) := by decide +kernel
theorem dX7_isIn_10 : decode cX7_isIn 10 = .ok (.iconst 1, 1) := by decide +kernel
theorem dX7_isIn_11 : decode cX7_isIn 11 = .ok (.goto 4, 3) := by decide +kernel
theorem dX7_isIn_14 : decode cX7_isIn 14 = .ok (.iconst 0, 1) := by decide +kernel
theorem dX7_isIn_15 : decode cX7_isIn 15 = .ok (.ireturn, 1) := by decide +kernel
theorem dX7_isShip_0 : decode cX7_isShip 0 = .ok (.iload_n 1, 1) := by decide +kernel
theorem dX7_isShip_1 : decode cX7_isShip 1 = .ok (.iconst 0, 1) := by decide +kernel
theorem dX7_isShip_2 : decode cX7_isShip 2 = .ok (.aload_n 0, 1) := by decide +kernel
theorem dX7_isShip_3 : decode cX7_isShip 3 = .ok (.getfield 75, 3) := by decide +kernel
theorem dX7_isShip_6 : decode cX7_isShip 6 = .ok (.iconst 1, 1) := by decide +kernel
theorem dX7_isShip_7 : decode cX7_isShip 7 = .ok (.isub, 1) := by decide +kernel
theorem dX7_isShip_8 : decode cX7_isShip 8 = .ok (.invokestatic 78, 3) := by decide +kernel
theorem dX7_isShip_11 : decode cX7_isShip 11 = .ok (.ireturn, 1) := by decide +kernel
theorem dX7_isMove_0 : decode cX7_isMove 0 = .ok (.iload_n 1, 1) := by decide +kernel
theorem dX7_isMove_1 : decode cX7_isMove 1 = .ok (.iconst 0, 1) := by decide +kernel
theorem dX7_isMove_2 : decode cX7_isMove 2 = .ok (.aload_n 0, 1) := by decide +kernel
theorem dX7_isMove_3 : decode cX7_isMove 3 = .ok (.getfield 82, 3) := by decide +kernel
theorem dX7_isMove_6 : decode cX7_isMove 6 = .ok (.iconst 1, 1) := by decide +kernel
theorem dX7_isMove_7 : decode cX7_isMove 7 = .ok (.isub, 1) := by decide +kernel
theorem dX7_isMove_8 : decode cX7_isMove 8 = .ok (.invokestatic 78, 3) := by decide +kernel
theorem dX7_isMove_11 : decode cX7_isMove 11 = .ok (.ireturn, 1) := by decide +kernel
theorem dX7_depthOf_0 : decode cX7_depthOf 0 = .ok (.aload_n 0, 1) := by decide +kernel
theorem dX7_depthOf_1 : decode cX7_depthOf 1 = .ok (.getfield 7, 3) := by decide +kernel
theorem dX7_depthOf_4 : decode cX7_depthOf 4 = .ok (.iload_n 1, 1) := by decide +kernel
theorem dX7_depthOf_5 : decode cX7_depthOf 5 = .ok (.bipush 12, 2) := by decide +kernel
theorem dX7_depthOf_7 : decode cX7_depthOf 7 = .ok (.irem, 1) := by decide +kernel
theorem dX7_depthOf_8 : decode cX7_depthOf 8 = .ok (.iaload, 1) := by decide +kernel
theorem dX7_depthOf_9 : decode cX7_depthOf 9 = .ok (.aload_n 0, 1) := by decide +kernel
theorem dX7_depthOf_10 : decode cX7_depthOf 10 = .ok (.getfield 13, 3) := by decide +kernel
theorem dX7_depthOf_13 : decode cX7_depthOf 13 = .ok (.iload_n 1, 1) := by decide +kernel
theorem dX7_depthOf_14 : decode cX7_depthOf 14 = .ok (.iaload, 1) := by decide +kernel
theorem dX7_depthOf_15 : decode cX7_depthOf 15 = .ok (.iadd, 1) := by decide +kernel
theorem dX7_depthOf_16 : decode cX7_depthOf 16 = .ok (.ireturn, 1) := by decide +kernel
theorem dX7_table_0 : decode cX7_table 0 = .ok (.aload_n 0, 1) := by decide +kernel
theorem dX7_table_1 : decode cX7_table 1 = .ok (.iload_n 1, 1) := by decide +kernel
theorem dX7_table_2 : decode cX7_table 2 = .ok (.iconst 0, 1) := by decide +kernel
theorem dX7_table_3 : decode cX7_table 3 = .ok (.bipush 11, 2) := by decide +kernel
theorem dX7_table_5 : decode cX7_table 5 = .ok (.invokestatic 78, 3) := by decide +kernel
theorem dX7_table_8 : decode cX7_table 8 = .ok (.ifCond .ne 7, 3) := by decide +kernel
theorem dX7_table_11 : decode cX7_table 11 = .ok (.iconst 1, 1) := by decide +kernel
theorem dX7_table_12 : decode cX7_table 12 = .ok (.goto 30, 3) := by decide +kernel
theorem dX7_table_15 : decode cX7_table 15 = .ok (.iload_n 2, 1) := by decide +kernel
theorem dX7_table_16 : decode cX7_table 16 = .ok (.iconst 0, 1) := by decide +kernel
theorem dX7_table_17 : decode cX7_table 17 = .ok (.sipush 150, 3) := by decide +kernel
theorem dX7_table_20 : decode cX7_table 20 = .ok (.invokestatic 78, 3) := by decide +kernel
theorem dX7_table_23 : decode cX7_table 23 = .ok (.ifCond .ne 7, 3) := by decide +kernel
theorem dX7_table_26 : decode cX7_table 26 = .ok (.iconst 2, 1) := by decide +kernel
theorem dX7_table_27 : decode cX7_table 27 = .ok (.goto 15, 3) := by decide +kernel
theorem dX7_table_30 : decode cX7_table 30 = .ok (.aload_n 0, 1) := by decide +kernel
theorem dX7_table_31 : decode cX7_table 31 = .ok (.getfield 82, 3) := by decide +kernel
theorem dX7_table_34 : decode cX7_table 34 = .ok (.ifCond .le 7, 3) := by decide +kernel
theorem dX7_table_37 : decode cX7_table 37 = .ok (.iconst 3, 1) := by decide +kernel
theorem dX7_table_38 : decode cX7_table 38 = .ok (.goto 4, 3) := by decide +kernel
theorem dX7_table_41 : decode cX7_table 41 = .ok (.iconst 0, 1) := by decide +kernel
theorem dX7_table_42 : decode cX7_table 42 = .ok (.invokevirtual 85, 3) := by decide +kernel
theorem dX7_table_45 : decode cX7_table 45 = .ok (.ifCond .ne 5, 3) := by decide +kernel
theorem dX7_table_48 : decode cX7_table 48 = .ok (.iconst 0, 1) := by decide +kernel
theorem dX7_table_49 : decode cX7_table 49 = .ok (.ireturn, 1) := by decide +kernel
theorem dX7_table_50 : decode cX7_table 50 = .ok (.aload_n 0, 1) := by decide +kernel
theorem dX7_table_51 : decode cX7_table 51 = .ok (.getfield 7, 3) := by decide +kernel
theorem dX7_table_54 : decode cX7_table 54 = .ok (.iload_n 1, 1) := by decide +kernel
theorem dX7_table_55 : decode cX7_table 55 = .ok (.iaload, 1) := by decide +kernel
theorem dX7_table_56 : decode cX7_table 56 = .ok (.istore_n 3, 1) := by decide +kernel
theorem dX7_table_57 : decode cX7_table 57 = .ok (.aload_n 0, 1) := by decide +kernel
theorem dX7_table_58 : decode cX7_table 58 = .ok (.getfield 7, 3) := by decide +kernel
theorem dX7_table_61 : decode cX7_table 61 = .ok (.iload_n 1, 1) := by decide +kernel
theorem dX7_table_62 : decode cX7_table 62 = .ok (.iload_n 2, 1) := by decide +kernel
theorem dX7_table_63 : decode cX7_table 63 = .ok (.iastore, 1) := by decide +kernel
theorem dX7_table_64 : decode cX7_table 64 = .ok (.iload_n 3, 1) := by decide +kernel
theorem dX7_table_65 : decode cX7_table 65 = .ok (.ireturn, 1) := by decide +kernel
theorem dX7_wind_0 : decode cX7_wind 0 = .ok (.aload_n 0, 1) := by decide +kernel
theorem dX7_wind_1 : decode cX7_wind 1 = .ok (.iload_n 1, 1) := by decide +kernel
theorem dX7_wind_2 : decode cX7_wind 2 = .ok (.aload_n 0, 1) := by decide +kernel
theorem dX7_wind_3 : decode cX7_wind 3 = .ok (.getfield 89, 3) := by decide +kernel
theorem dX7_wind_6 : decode cX7_wind 6 = .ok (.iconst 3, 1) := by decide +kernel
theorem dX7_wind_7 : decode cX7_wind 7 = .ok (.iadd, 1) := by decide +kernel
theorem dX7_wind_8 : decode cX7_wind 8 = .ok (.sipush 3100, 3) := by decide +kernel
theorem dX7_wind_11 : decode cX7_wind 11 = .ok (.invokestatic 78, 3) := by decide +kernel
theorem dX7_wind_14 : decode cX7_wind 14 = .ok (.ifCond .eq 28, 3) := by decide +kernel
theorem dX7_wind_17 : decode cX7_wind 17 = .ok (.iload_n 2, 1) := by decide +kernel
theorem dX7_wind_18 : decode cX7_wind 18 = .ok (.iconst 1, 1) := by decide +kernel
theorem dX7_wind_19 : decode cX7_wind 19 = .ok (.bipush 48, 2) := by decide +kernel
theorem dX7_wind_21 : decode cX7_wind 21 = .ok (.invokestatic 78, 3) := by decide +kernel
theorem dX7_wind_24 : decode cX7_wind 24 = .ok (.ifCond .eq 18, 3) := by decide +kernel
theorem dX7_wind_27 : decode cX7_wind 27 = .ok (.iload_n 3, 1) := by decide +kernel
theorem dX7_wind_28 : decode cX7_wind 28 = .ok (.bipush (-40), 2) := by decide +kernel
theorem dX7_wind_30 : decode cX7_wind 30 = .ok (.bipush 40, 2) := by decide +kernel
theorem dX7_wind_32 : decode cX7_wind 32 = .ok (.invokestatic 78, 3) := by decide +kernel
theorem dX7_wind_35 : decode cX7_wind 35 = .ok (.ifCond .eq 7, 3) := by decide +kernel
theorem dX7_wind_38 : decode cX7_wind 38 = .ok (.iconst 0, 1) := by decide +kernel
theorem dX7_wind_39 : decode cX7_wind 39 = .ok (.goto 4, 3) := by decide +kernel
theorem dX7_wind_42 : decode cX7_wind 42 = .ok (.iconst 1, 1) := by decide +kernel
theorem dX7_wind_43 : decode cX7_wind 43 = .ok (.invokevirtual 85, 3) := by decide +kernel
theorem dX7_wind_46 : decode cX7_wind 46 = .ok (.ifCond .ne 5, 3) := by decide +kernel
theorem dX7_wind_49 : decode cX7_wind 49 = .ok (.iconst 0, 1) := by decide +kernel
theorem dX7_wind_50 : decode cX7_wind 50 = .ok (.ireturn, 1) := by decide +kernel
theorem dX7_wind_51 : decode cX7_wind 51 = .ok (.aload_n 0, 1) := by decide +kernel
theorem dX7_wind_52 : decode cX7_wind 52 = .ok (.getfield 13, 3) := by decide +kernel
theorem dX7_wind_55 : decode cX7_wind 55 = .ok (.iload_n 1, 1) := by decide +kernel
theorem dX7_wind_56 : decode cX7_wind 56 = .ok (.iaload, 1) := by decide +kernel
theorem dX7_wind_57 : decode cX7_wind 57 = .ok (.istore 4, 2) := by decide +kernel
theorem dX7_wind_59 : decode cX7_wind 59 = .ok (.iload_n 1, 1) := by decide +kernel
theorem dX7_wind_60 : decode cX7_wind 60 = .ok (.istore 5, 2) := by decide +kernel
theorem dX7_wind_62 : decode cX7_wind 62 = .ok (.iload 5, 2) := by decide +kernel
theorem dX7_wind_64 : decode cX7_wind 64 = .ok (.iload_n 1, 1) := by decide +kernel
theorem dX7_wind_65 : decode cX7_wind 65 = .ok (.iload_n 2, 1) := by decide +kernel
theorem dX7_wind_66 : decode cX7_wind 66 = .ok (.iadd, 1) := by decide +kernel
theorem dX7_wind_67 : decode cX7_wind 67 = .ok (.if_icmp .ge 17, 3) := by decide +kernel
theorem dX7_wind_70 : decode cX7_wind 70 = .ok (.aload_n 0, 1) := by decide +kernel
theorem dX7_wind_71 : decode cX7_wind 71 = .ok (.getfield 13, 3) := by decide +kernel
theorem dX7_wind_74 : decode cX7_wind 74 = .ok (.iload 5, 2) := by decide +kernel
theorem dX7_wind_76 : decode cX7_wind 76 = .ok (.iload_n 3, 1) := by decide +kernel
theorem dX7_wind_77 : decode cX7_wind 77 = .ok (.iastore, 1) := by decide +kernel
theorem dX7_wind_78 : decode cX7_wind 78 = .ok (.iinc 5 1, 3) := by decide +kernel
theorem dX7_wind_81 : decode cX7_wind 81 = .ok (.goto (-19), 3) := by decide +kernel
theorem dX7_wind_84 : decode cX7_wind 84 = .ok (.iload 4, 2) := by decide +kernel
theorem dX7_wind_86 : decode cX7_wind 86 = .ok (.ireturn, 1) := by decide +kernel
theorem dX7_depth_0 : decode cX7_depth 0 = .ok (.aload_n 0, 1) := by decide +kernel
theorem dX7_depth_1 : decode cX7_depth 1 = .ok (.iload_n 1, 1) := by decide +kernel
theorem dX7_depth_2 : decode cX7_depth 2 = .ok (.iconst 0, 1) := by decide +kernel
theorem dX7_depth_3 : decode cX7_depth 3 = .ok (.sipush 3100, 3) := by decide +kernel
theorem dX7_depth_6 : decode cX7_depth 6 = .ok (.invokestatic 78, 3) := by decide +kernel
theorem dX7_depth_9 : decode cX7_depth 9 = .ok (.ifCond .eq 7, 3) := by decide +kernel
theorem dX7_depth_12 : decode cX7_depth 12 = .ok (.iconst 0, 1) := by decide +kernel
theorem dX7_depth_13 : decode cX7_depth 13 = .ok (.goto 4, 3) := by decide +kernel
theorem dX7_depth_16 : decode cX7_depth 16 = .ok (.iconst 1, 1) := by decide +kernel
theorem dX7_depth_17 : decode cX7_depth 17 = .ok (.invokevirtual 85, 3) := by decide +kernel
theorem dX7_depth_20 : decode cX7_depth 20 = .ok (.ifCond .eq 11, 3) := by decide +kernel
theorem dX7_depth_23 : decode cX7_depth 23 = .ok (.aload_n 0, 1) := by decide +kernel
theorem dX7_depth_24 : decode cX7_depth 24 = .ok (.iload_n 1, 1) := by decide +kernel
theorem dX7_depth_25 : decode cX7_depth 25 = .ok (.invokevirtual 92, 3) := by decide +kernel
theorem dX7_depth_28 : decode cX7_depth 28 = .ok (.goto 4, 3) := by decide +kernel
theorem dX7_depth_31 : decode cX7_depth 31 = .ok (.iconst 0, 1) := by decide +kernel
theorem dX7_depth_32 : decode cX7_depth 32 = .ok (.ireturn, 1) := by decide +kernel
theorem dX7_wasUsed_0 : decode cX7_wasUsed 0 = .ok (.iconst 0, 1) := by decide +kernel
theorem dX7_wasUsed_1 : decode cX7_wasUsed 1 = .ok (.istore_n 2, 1) := by decide +kernel
theorem dX7_wasUsed_2 : decode cX7_wasUsed 2 = .ok (.iconst 0, 1) := by decide +kernel
theorem dX7_wasUsed_3 : decode cX7_wasUsed 3 = .ok (.istore_n 3, 1) := by decide +kernel
theorem dX7_wasUsed_4 : decode cX7_wasUsed 4 = .ok (.iload_n 3, 1) := by decide +kernel
theorem dX7_wasUsed_5 : decode cX7_wasUsed 5 = .ok (.aload_n 0, 1) := by decide +kernel
theorem dX7_wasUsed_6 : decode cX7_wasUsed 6 = .ok (.getfield 82, 3) := by decide +kernel
theorem dX7_wasUsed_9 : decode cX7_wasUsed 9 = .ok (.if_icmp .ge 34, 3) := by decide +kernel
theorem dX7_wasUsed_12 : decode cX7_wasUsed 12 = .ok (.iload_n 2, 1) := by decide +kernel
theorem dX7_wasUsed_13 : decode cX7_wasUsed 13 = .ok (.ifCond .ne 18, 3) := by decide +kernel
theorem dX7_wasUsed_16 : decode cX7_wasUsed 16 = .ok (.aload_n 0, 1) := by decide +kernel
theorem dX7_wasUsed_17 : decode cX7_wasUsed 17 = .ok (.getfield 28, 3) := by decide +kernel
theorem dX7_wasUsed_20 : decode cX7_wasUsed 20 = .ok (.aload_n 0, 1) := by decide +kernel
theorem dX7_wasUsed_21 : decode cX7_wasUsed 21 = .ok (.getfield 58, 3) := by decide +kernel
theorem dX7_wasUsed_24 : decode cX7_wasUsed 24 = .ok (.iload_n 3, 1) := by decide +kernel
theorem dX7_wasUsed_25 : decode cX7_wasUsed 25 = .ok (.iaload, 1) := by decide +kernel
theorem dX7_wasUsed_26 : decode cX7_wasUsed 26 = .ok (.iaload, 1) := by decide +kernel
theorem dX7_wasUsed_27 : decode cX7_wasUsed 27 = .ok (.iload_n 1, 1) := by decide +kernel
theorem dX7_wasUsed_28 : decode cX7_wasUsed 28 = .ok (.if_icmp .ne 7, 3) := by decide +kernel
theorem dX7_wasUsed_31 : decode cX7_wasUsed 31 = .ok (.iconst 1, 1) := by decide +kernel
theorem dX7_wasUsed_32 : decode cX7_wasUsed 32 = .ok (.goto 4, 3) := by decide +kernel
theorem dX7_wasUsed_35 : decode cX7_wasUsed 35 = .ok (.iconst 0, 1) := by decide +kernel
theorem dX7_wasUsed_36 : decode cX7_wasUsed 36 = .ok (.istore_n 2, 1) := by decide +kernel
theorem dX7_wasUsed_37 : decode cX7_wasUsed 37 = .ok (.iinc 3 1, 3) := by decide +kernel
theorem dX7_wasUsed_40 : decode cX7_wasUsed 40 = .ok (.goto (-36), 3) := by decide +kernel
theorem dX7_wasUsed_43 : decode cX7_wasUsed 43 = .ok (.iload_n 2, 1) := by decide +kernel
theorem dX7_wasUsed_44 : decode cX7_wasUsed 44 = .ok (.ireturn, 1) := by decide +kernel
theorem dX7_berth_0 : decode cX7_berth 0 = .ok (.aload_n 0, 1) := by decide +kernel
theorem dX7_berth_1 : decode cX7_berth 1 = .ok (.iload_n 1, 1) := by decide +kernel
theorem dX7_berth_2 : decode cX7_berth 2 = .ok (.iconst 0, 1) := by decide +kernel
theorem dX7_berth_3 : decode cX7_berth 3 = .ok (.iconst 5, 1) := by decide +kernel
theorem dX7_berth_4 : decode cX7_berth 4 = .ok (.invokestatic 78, 3) := by decide +kernel
theorem dX7_berth_7 : decode cX7_berth 7 = .ok (.ifCond .ne 7, 3) := by decide +kernel
theorem dX7_berth_10 : decode cX7_berth 10 = .ok (.iconst 1, 1) := by decide +kernel
theorem dX7_berth_11 : decode cX7_berth 11 = .ok (.goto 31, 3) := by decide +kernel
theorem dX7_berth_14 : decode cX7_berth 14 = .ok (.iload_n 2, 1) := by decide +kernel
theorem dX7_berth_15 : decode cX7_berth 15 = .ok (.iconst 0, 1) := by decide +kernel
theorem dX7_berth_16 : decode cX7_berth 16 = .ok (.sipush 200, 3) := by decide +kernel
theorem dX7_berth_19 : decode cX7_berth 19 = .ok (.invokestatic 78, 3) := by decide +kernel
theorem dX7_berth_22 : decode cX7_berth 22 = .ok (.ifCond .ne 7, 3) := by decide +kernel
theorem dX7_berth_25 : decode cX7_berth 25 = .ok (.iconst 2, 1) := by decide +kernel
theorem dX7_berth_26 : decode cX7_berth 26 = .ok (.goto 16, 3) := by decide +kernel
theorem dX7_berth_29 : decode cX7_berth 29 = .ok (.aload_n 0, 1) := by decide +kernel
theorem dX7_berth_30 : decode cX7_berth 30 = .ok (.iload_n 1, 1) := by decide +kernel
theorem dX7_berth_31 : decode cX7_berth 31 = .ok (.invokevirtual 96, 3) := by decide +kernel
theorem dX7_berth_34 : decode cX7_berth 34 = .ok (.ifCond .eq 7, 3) := by decide +kernel
theorem dX7_berth_37 : decode cX7_berth 37 = .ok (.iconst 3, 1) := by decide +kernel
theorem dX7_berth_38 : decode cX7_berth 38 = .ok (.goto 4, 3) := by decide +kernel
theorem dX7_berth_41 : decode cX7_berth 41 = .ok (.iconst 0, 1) := by decide +kernel
theorem dX7_berth_42 : decode cX7_berth 42 = .ok (.invokevirtual 85, 3) := by decide +kernel
theorem dX7_berth_45 : decode cX7_berth 45 = .ok (.ifCond .ne 5, 3) := by decide +kernel
theorem dX7_berth_48 : decode cX7_berth 48 = .ok (.iconst 0, 1) := by decide +kernel
theorem dX7_berth_49 : decode cX7_berth 49 = .ok (.ireturn, 1) := by decide +kernel
theorem dX7_berth_50 : decode cX7_berth 50 = .ok (.aload_n 0, 1) := by decide +kernel
theorem dX7_berth_51 : decode cX7_berth 51 = .ok (.getfield 16, 3) := by decide +kernel
theorem dX7_berth_54 : decode cX7_berth 54 = .ok (.iload_n 1, 1) := by decide +kernel
theorem dX7_berth_55 : decode cX7_berth 55 = .ok (.iaload, 1) := by decide +kernel
theorem dX7_berth_56 : decode cX7_berth 56 = .ok (.istore_n 3, 1) := by decide +kernel
theorem dX7_berth_57 : decode cX7_berth 57 = .ok (.aload_n 0, 1) := by decide +kernel
theorem dX7_berth_58 : decode cX7_berth 58 = .ok (.getfield 16, 3) := by decide +kernel
theorem dX7_berth_61 : decode cX7_berth 61 = .ok (.iload_n 1, 1) := by decide +kernel
theorem dX7_berth_62 : decode cX7_berth 62 = .ok (.iload_n 2, 1) := by decide +kernel
theorem dX7_berth_63 : decode cX7_berth 63 = .ok (.iastore, 1) := by decide +kernel
theorem dX7_berth_64 : decode cX7_berth 64 = .ok (.iload_n 3, 1) := by decide +kernel
theorem dX7_berth_65 : decode cX7_berth 65 = .ok (.ireturn, 1) := by decide +kernel
theorem dX7_floats_0 : decode cX7_floats 0 = .ok (.aload_n 0, 1) := by decide +kernel
theorem dX7_floats_1 : decode cX7_floats 1 = .ok (.getfield 31, 3) := by decide +kernel
theorem dX7_floats_4 : decode cX7_floats 4 = .ok (.iload_n 1, 1) := by decide +kernel
theorem dX7_floats_5 : decode cX7_floats 5 = .ok (.iaload, 1) := by decide +kernel
theorem dX7_floats_6 : decode cX7_floats 6 = .ok (.ifCond .ne 8, 3) := by decide +kernel
theorem dX7_floats_9 : decode cX7_floats 9 = .ok (.bipush 30, 2) := by decide +kernel
theorem dX7_floats_11 : decode cX7_floats 11 = .ok (.goto 14, 3) := by decide +kernel
theorem dX7_floats_14 : decode cX7_floats 14 = .ok (.aload_n 0, 1) := by decide +kernel
theorem dX7_floats_15 : decode cX7_floats 15 = .ok (.getfield 16, 3) := by decide +kernel
theorem dX7_floats_18 : decode cX7_floats 18 = .ok (.aload_n 0, 1) := by decide +kernel
theorem dX7_floats_19 : decode cX7_floats 19 = .ok (.getfield 28, 3) := by decide +kernel
theorem dX7_floats_22 : decode cX7_floats 22 = .ok (.iload_n 1, 1) := by decide +kernel
theorem dX7_floats_23 : decode cX7_floats 23 = .ok (.iaload, 1) := by decide +kernel
theorem dX7_floats_24 : decode cX7_floats 24 = .ok (.iaload, 1) := by decide +kernel
theorem dX7_floats_25 : decode cX7_floats 25 = .ok (.istore_n 3, 1) := by decide +kernel
theorem dX7_floats_26 : decode cX7_floats 26 = .ok (.aload_n 0, 1) := by decide +kernel
theorem dX7_floats_27 : decode cX7_floats 27 = .ok (.getfield 31, 3) := by decide +kernel
theorem dX7_floats_30 : decode cX7_floats 30 = .ok (.iload_n 1, 1) := by decide +kernel
theorem dX7_floats_31 : decode cX7_floats 31 = .ok (.iaload, 1) := by decide +kernel
theorem dX7_floats_32 : decode cX7_floats 32 = .ok (.ifCond .ne 17, 3) := by decide +kernel
theorem dX7_floats_35 : decode cX7_floats 35 = .ok (.aload_n 0, 1) := by decide +kernel
theorem dX7_floats_36 : decode cX7_floats 36 = .ok (.getfield 16, 3) := by decide +kernel
theorem dX7_floats_39 : decode cX7_floats 39 = .ok (.aload_n 0, 1) := by decide +kernel
theorem dX7_floats_40 : decode cX7_floats 40 = .ok (.getfield 28, 3) := by decide +kernel
theorem dX7_floats_43 : decode cX7_floats 43 = .ok (.iload_n 1, 1) := by decide +kernel
theorem dX7_floats_44 : decode cX7_floats 44 = .ok (.iaload, 1) := by decide +kernel
theorem dX7_floats_45 : decode cX7_floats 45 = .ok (.iaload, 1) := by decide +kernel
theorem dX7_floats_46 : decode cX7_floats 46 = .ok (.goto 5, 3) := by decide +kernel
theorem dX7_floats_49 : decode cX7_floats 49 = .ok (.bipush 30, 2) := by decide +kernel
theorem dX7_floats_51 : decode cX7_floats 51 = .ok (.istore 4, 2) := by decide +kernel
theorem dX7_floats_53 : decode cX7_floats 53 = .ok (.aload_n 0, 1) := by decide +kernel
theorem dX7_floats_54 : decode cX7_floats 54 = .ok (.getfield 22, 3) := by decide +kernel
theorem dX7_floats_57 : decode cX7_floats 57 = .ok (.iload_n 1, 1) := by decide +kernel
theorem dX7_floats_58 : decode cX7_floats 58 = .ok (.iaload, 1) := by decide +kernel
theorem dX7_floats_59 : decode cX7_floats 59 = .ok (.iconst 5, 1) := by decide +kernel
theorem dX7_floats_60 : decode cX7_floats 60 = .ok (.iadd, 1) := by decide +kernel
theorem dX7_floats_61 : decode cX7_floats 61 = .ok (.istore 5, 2) := by decide +kernel
theorem dX7_floats_63 : decode cX7_floats 63 = .ok (.aload_n 0, 1) := by decide +kernel
theorem dX7_floats_64 : decode cX7_floats 64 = .ok (.getfield 31, 3) := by decide +kernel
theorem dX7_floats_67 : decode cX7_floats 67 = .ok (.iload_n 1, 1) := by decide +kernel
theorem dX7_floats_68 : decode cX7_floats 68 = .ok (.iaload, 1) := by decide +kernel
theorem dX7_floats_69 : decode cX7_floats 69 = .ok (.ifCond .eq 13, 3) := by decide +kernel
theorem dX7_floats_72 : decode cX7_floats 72 = .ok (.aload_n 0, 1) := by decide +kernel
theorem dX7_floats_73 : decode cX7_floats 73 = .ok (.getfield 31, 3) := by decide +kernel
theorem dX7_floats_76 : decode cX7_floats 76 = .ok (.iload_n 1, 1) := by decide +kernel
theorem dX7_floats_77 : decode cX7_floats 77 = .ok (.iaload, 1) := by decide +kernel
theorem dX7_floats_78 : decode cX7_floats 78 = .ok (.iconst 2, 1) := by decide +kernel
theorem dX7_floats_79 : decode cX7_floats 79 = .ok (.if_icmp .ne 7, 3) := by decide +kernel
theorem dX7_floats_82 : decode cX7_floats 82 = .ok (.iconst 1, 1) := by decide +kernel
theorem dX7_floats_83 : decode cX7_floats 83 = .ok (.goto 4, 3) := by decide +kernel
theorem dX7_floats_86 : decode cX7_floats 86 = .ok (.iconst 0, 1) := by decide +kernel
theorem dX7_floats_87 : decode cX7_floats 87 = .ok (.istore 6, 2) := by decide +kernel
theorem dX7_floats_89 : decode cX7_floats 89 = .ok (.iload 6, 2) := by decide +kernel
theorem dX7_floats_91 : decode cX7_floats 91 = .ok (.ifCond .eq 34, 3) := by decide +kernel
theorem dX7_floats_94 : decode cX7_floats 94 = .ok (.aload_n 0, 1) := by decide +kernel
theorem dX7_floats_95 : decode cX7_floats 95 = .ok (.iload_n 2, 1) := by decide +kernel
theorem dX7_floats_96 : decode cX7_floats 96 = .ok (.invokevirtual 92, 3) := by decide +kernel
theorem dX7_floats_99 : decode cX7_floats 99 = .ok (.iload_n 3, 1) := by decide +kernel
theorem dX7_floats_100 : decode cX7_floats 100 = .ok (.iadd, 1) := by decide +kernel
theorem dX7_floats_101 : decode cX7_floats 101 = .ok (.iload 5, 2) := by decide +kernel
theorem dX7_floats_103 : decode cX7_floats 103 = .ok (.if_icmp .lt 22, 3) := by decide +kernel
theorem dX7_floats_106 : decode cX7_floats 106 = .ok (.aload_n 0, 1) := by decide +kernel
theorem dX7_floats_107 : decode cX7_floats 107 = .ok (.iload_n 2, 1) := by decide +kernel
theorem dX7_floats_108 : decode cX7_floats 108 = .ok (.iconst 1, 1) := by decide +kernel
theorem dX7_floats_109 : decode cX7_floats 109 = .ok (.iadd, 1) := by decide +kernel
theorem dX7_floats_110 : decode cX7_floats 110 = .ok (.invokevirtual 92, 3) := by decide +kernel
theorem dX7_floats_113 : decode cX7_floats 113 = .ok (.iload 4, 2) := by decide +kernel
theorem dX7_floats_115 : decode cX7_floats 115 = .ok (.iadd, 1) := by decide +kernel
theorem dX7_floats_116 : decode cX7_floats 116 = .ok (.iload 5, 2) := by decide +kernel
theorem dX7_floats_118 : decode cX7_floats 118 = .ok (.if_icmp .lt 7, 3) := by decide +kernel
theorem dX7_floats_121 : decode cX7_floats 121 = .ok (.iconst 1, 1) := by decide +kernel
theorem dX7_floats_122 : decode cX7_floats 122 = .ok (.goto 4, 3) := by decide +kernel
theorem dX7_floats_125 : decode cX7_floats 125 = .ok (.iconst 0, 1) := by decide +kernel
theorem dX7_floats_126 : decode cX7_floats 126 = .ok (.ireturn, 1) := by decide +kernel
theorem dX7_ship_0 : decode cX7_ship 0 = .ok (.iload_n 1, 1) := by decide +kernel
theorem dX7_ship_1 : decode cX7_ship 1 = .ok (.iconst 1, 1) := by decide +kernel
theorem dX7_ship_2 : decode cX7_ship 2 = .ok (.iconst 4, 1) := by decide +kernel
theorem dX7_ship_3 : decode cX7_ship 3 = .ok (.invokestatic 78, 3) := by decide +kernel
theorem dX7_ship_6 : decode cX7_ship 6 = .ok (.ifCond .eq 28, 3) := by decide +kernel
theorem dX7_ship_9 : decode cX7_ship 9 = .ok (.iload_n 2, 1) := by decide +kernel
theorem dX7_ship_10 : decode cX7_ship 10 = .ok (.bipush 10, 2) := by decide +kernel
theorem dX7_ship_12 : decode cX7_ship 12 = .ok (.sipush 150, 3) := by decide +kernel
theorem dX7_ship_15 : decode cX7_ship 15 = .ok (.invokestatic 78, 3) := by decide +kernel
theorem dX7_ship_18 : decode cX7_ship 18 = .ok (.ifCond .eq 16, 3) := by decide +kernel
theorem dX7_ship_21 : decode cX7_ship 21 = .ok (.iload_n 3, 1) := by decide +kernel
theorem dX7_ship_22 : decode cX7_ship 22 = .ok (.iconst 0, 1) := by decide +kernel
theorem dX7_ship_23 : decode cX7_ship 23 = .ok (.iconst 3, 1) := by decide +kernel
theorem dX7_ship_24 : decode cX7_ship 24 = .ok (.invokestatic 78, 3) := by decide +kernel
theorem dX7_ship_27 : decode cX7_ship 27 = .ok (.ifCond .eq 7, 3) := by decide +kernel
theorem dX7_ship_30 : decode cX7_ship 30 = .ok (.iconst 1, 1) := by decide +kernel
theorem dX7_ship_31 : decode cX7_ship 31 = .ok (.goto 4, 3) := by decide +kernel
theorem dX7_ship_34 : decode cX7_ship 34 = .ok (.iconst 0, 1) := by decide +kernel
theorem dX7_ship_35 : decode cX7_ship 35 = .ok (.istore 5, 2) := by decide +kernel
theorem dX7_ship_37 : decode cX7_ship 37 = .ok (.aload_n 0, 1) := by decide +kernel
theorem dX7_ship_38 : decode cX7_ship 38 = .ok (.iload 4, 2) := by decide +kernel
theorem dX7_ship_40 : decode cX7_ship 40 = .ok (.iconst 0, 1) := by decide +kernel
theorem dX7_ship_41 : decode cX7_ship 41 = .ok (.iconst 5, 1) := by decide +kernel
theorem dX7_ship_42 : decode cX7_ship 42 = .ok (.invokestatic 78, 3) := by decide +kernel
theorem dX7_ship_45 : decode cX7_ship 45 = .ok (.ifCond .ne 7, 3) := by decide +kernel
theorem dX7_ship_48 : decode cX7_ship 48 = .ok (.iconst 1, 1) := by decide +kernel
theorem dX7_ship_49 : decode cX7_ship 49 = .ok (.goto 26, 3) := by decide +kernel
theorem dX7_ship_52 : decode cX7_ship 52 = .ok (.iload 5, 2) := by decide +kernel
theorem dX7_ship_54 : decode cX7_ship 54 = .ok (.ifCond .ne 7, 3) := by decide +kernel
theorem dX7_ship_57 : decode cX7_ship 57 = .ok (.iconst 2, 1) := by decide +kernel
theorem dX7_ship_58 : decode cX7_ship 58 = .ok (.goto 17, 3) := by decide +kernel
theorem dX7_ship_61 : decode cX7_ship 61 = .ok (.aload_n 0, 1) := by decide +kernel
theorem dX7_ship_62 : decode cX7_ship 62 = .ok (.getfield 75, 3) := by decide +kernel
theorem dX7_ship_65 : decode cX7_ship 65 = .ok (.bipush 30, 2) := by decide +kernel
theorem dX7_ship_67 : decode cX7_ship 67 = .ok (.if_icmp .ne 7, 3) := by decide +kernel
theorem dX7_ship_70 : decode cX7_ship 70 = .ok (.iconst 3, 1) := by decide +kernel
theorem dX7_ship_71 : decode cX7_ship 71 = .ok (.goto 4, 3) := by decide +kernel
theorem dX7_ship_74 : decode cX7_ship 74 = .ok (.iconst 0, 1) := by decide +kernel
theorem dX7_ship_75 : decode cX7_ship 75 = .ok (.invokevirtual 85, 3) := by decide +kernel
theorem dX7_ship_78 : decode cX7_ship 78 = .ok (.ifCond .ne 5, 3) := by decide +kernel
theorem dX7_ship_81 : decode cX7_ship 81 = .ok (.iconst 0, 1) := by decide +kernel
theorem dX7_ship_82 : decode cX7_ship 82 = .ok (.ireturn, 1) := by decide +kernel
theorem dX7_ship_83 : decode cX7_ship 83 = .ok (.aload_n 0, 1) := by decide +kernel
theorem dX7_ship_84 : decode cX7_ship 84 = .ok (.getfield 19, 3) := by decide +kernel
theorem dX7_ship_87 : decode cX7_ship 87 = .ok (.aload_n 0, 1) := by decide +kernel
theorem dX7_ship_88 : decode cX7_ship 88 = .ok (.getfield 75, 3) := by decide +kernel
theorem dX7_ship_91 : decode cX7_ship 91 = .ok (.iload_n 1, 1) := by decide +kernel
theorem dX7_ship_92 : decode cX7_ship 92 = .ok (.iastore, 1) := by decide +kernel
theorem dX7_ship_93 : decode cX7_ship 93 = .ok (.aload_n 0, 1) := by decide +kernel
theorem dX7_ship_94 : decode cX7_ship 94 = .ok (.getfield 22, 3) := by decide +kernel
theorem dX7_ship_97 : decode cX7_ship 97 = .ok (.aload_n 0, 1) := by decide +kernel
theorem dX7_ship_98 : decode cX7_ship 98 = .ok (.getfield 75, 3) := by decide +kernel
theorem dX7_ship_101 : decode cX7_ship 101 = .ok (.iload_n 2, 1) := by decide +kernel
theorem dX7_ship_102 : decode cX7_ship 102 = .ok (.iastore, 1) := by decide +kernel
theorem dX7_ship_103 : decode cX7_ship 103 = .ok (.aload_n 0, 1) := by decide +kernel
theorem dX7_ship_104 : decode cX7_ship 104 = .ok (.getfield 25, 3) := by decide +kernel
theorem dX7_ship_107 : decode cX7_ship 107 = .ok (.aload_n 0, 1) := by decide +kernel
theorem dX7_ship_108 : decode cX7_ship 108 = .ok (.getfield 75, 3) := by decide +kernel
theorem dX7_ship_111 : decode cX7_ship 111 = .ok (.iload_n 3, 1) := by decide +kernel
theorem dX7_ship_112 : decode cX7_ship 112 = .ok (.iastore, 1) := by decide +kernel
theorem dX7_ship_113 : decode cX7_ship 113 = .ok (.aload_n 0, 1) := by decide +kernel
theorem dX7_ship_114 : decode cX7_ship 114 = .ok (.getfield 28, 3) := by decide +kernel
theorem dX7_ship_117 : decode cX7_ship 117 = .ok (.aload_n 0, 1) := by decide +kernel
theorem dX7_ship_118 : decode cX7_ship 118 = .ok (.getfield 75, 3) := by decide +kernel
theorem dX7_ship_121 : decode cX7_ship 121 = .ok (.iload 4, 2) := by decide +kernel
theorem dX7_ship_123 : decode cX7_ship 123 = .ok (.iastore, 1) := by decide +kernel
theorem dX7_ship_124 : decode cX7_ship 124 = .ok (.aload_n 0, 1) := by decide +kernel
theorem dX7_ship_125 : decode cX7_ship 125 = .ok (.getfield 34, 3) := by decide +kernel
theorem dX7_ship_128 : decode cX7_ship 128 = .ok (.aload_n 0, 1) := by decide +kernel
theorem dX7_ship_129 : decode cX7_ship 129 = .ok (.getfield 75, 3) := by decide +kernel
theorem dX7_ship_132 : decode cX7_ship 132 = .ok (.iconst (-1), 1) := by decide +kernel
theorem dX7_ship_133 : decode cX7_ship 133 = .ok (.iastore, 1) := by decide +kernel
theorem dX7_ship_134 : decode cX7_ship 134 = .ok (.aload_n 0, 1) := by decide +kernel
theorem dX7_ship_135 : decode cX7_ship 135 = .ok (.dup, 1) := by decide +kernel
theorem dX7_ship_136 : decode cX7_ship 136 = .ok (.getfield 75, 3) := by decide +kernel
theorem dX7_ship_139 : decode cX7_ship 139 = .ok (.iconst 1, 1) := by decide +kernel
theorem dX7_ship_140 : decode cX7_ship 140 = .ok (.iadd, 1) := by decide +kernel
theorem dX7_ship_141 : decode cX7_ship 141 = .ok (.putfield 75, 3) := by decide +kernel
theorem dX7_ship_144 : decode cX7_ship 144 = .ok (.aload_n 0, 1) := by decide +kernel
theorem dX7_ship_145 : decode cX7_ship 145 = .ok (.getfield 75, 3) := by decide +kernel
theorem dX7_ship_148 : decode cX7_ship 148 = .ok (.iconst 1, 1) := by decide +kernel
theorem dX7_ship_149 : decode cX7_ship 149 = .ok (.isub, 1) := by decide +kernel
theorem dX7_ship_150 : decode cX7_ship 150 = .ok (.ireturn, 1) := by decide +kernel
theorem dX7_ordered_0 : decode cX7_ordered 0 = .ok (.iconst 0, 1) := by decide +kernel
theorem dX7_ordered_1 : decode cX7_ordered 1 = .ok (.istore_n 1, 1) := by decide +kernel
theorem dX7_ordered_2 : decode cX7_ordered 2 = .ok (.iconst 0, 1) := by decide +kernel
theorem dX7_ordered_3 : decode cX7_ordered 3 = .ok (.istore_n 2, 1) := by decide +kernel
theorem dX7_ordered_4 : decode cX7_ordered 4 = .ok (.iload_n 2, 1) := by decide +kernel
theorem dX7_ordered_5 : decode cX7_ordered 5 = .ok (.aload_n 0, 1) := by decide +kernel
theorem dX7_ordered_6 : decode cX7_ordered 6 = .ok (.getfield 75, 3) := by decide +kernel
theorem dX7_ordered_9 : decode cX7_ordered 9 = .ok (.if_icmp .ge 27, 3) := by decide +kernel
theorem dX7_ordered_12 : decode cX7_ordered 12 = .ok (.iload_n 1, 1) := by decide +kernel
theorem dX7_ordered_13 : decode cX7_ordered 13 = .ok (.aload_n 0, 1) := by decide +kernel
theorem dX7_ordered_14 : decode cX7_ordered 14 = .ok (.getfield 34, 3) := by decide +kernel
theorem dX7_ordered_17 : decode cX7_ordered 17 = .ok (.iload_n 2, 1) := by decide +kernel
theorem dX7_ordered_18 : decode cX7_ordered 18 = .ok (.iaload, 1) := by decide +kernel
theorem dX7_ordered_19 : decode cX7_ordered 19 = .ok (.iconst (-1), 1) := by decide +kernel
theorem dX7_ordered_20 : decode cX7_ordered 20 = .ok (.if_icmp .eq 7, 3) := by decide +kernel
theorem dX7_ordered_23 : decode cX7_ordered 23 = .ok (.iconst 1, 1) := by decide +kernel
theorem dX7_ordered_24 : decode cX7_ordered 24 = .ok (.goto 4, 3) := by decide +kernel
theorem dX7_ordered_27 : decode cX7_ordered 27 = .ok (.iconst 0, 1) := by decide +kernel
theorem dX7_ordered_28 : decode cX7_ordered 28 = .ok (.iadd, 1) := by decide +kernel
theorem dX7_ordered_29 : decode cX7_ordered 29 = .ok (.istore_n 1, 1) := by decide +kernel
theorem dX7_ordered_30 : decode cX7_ordered 30 = .ok (.iinc 2 1, 3) := by decide +kernel
theorem dX7_ordered_33 : decode cX7_ordered 33 = .ok (.goto (-29), 3) := by decide +kernel
theorem dX7_ordered_36 : decode cX7_ordered 36 = .ok (.iload_n 1, 1) := by decide +kernel
theorem dX7_ordered_37 : decode cX7_ordered 37 = .ok (.ireturn, 1) := by decide +kernel
theorem dX7_order_0 : decode cX7_order 0 = .ok (.aload_n 0, 1) := by decide +kernel
theorem dX7_order_1 : decode cX7_order 1 = .ok (.iload_n 1, 1) := by decide +kernel
theorem dX7_order_2 : decode cX7_order 2 = .ok (.invokevirtual 99, 3) := by decide +kernel
theorem dX7_order_5 : decode cX7_order 5 = .ok (.istore_n 3, 1) := by decide +kernel
theorem dX7_order_6 : decode cX7_order 6 = .ok (.iload_n 3, 1) := by decide +kernel
theorem dX7_order_7 : decode cX7_order 7 = .ok (.ifCond .eq 36, 3) := by decide +kernel
theorem dX7_order_10 : decode cX7_order 10 = .ok (.aload_n 0, 1) := by decide +kernel
theorem dX7_order_11 : decode cX7_order 11 = .ok (.getfield 31, 3) := by decide +kernel
theorem dX7_order_14 : decode cX7_order 14 = .ok (.iload_n 1, 1) := by decide +kernel
theorem dX7_order_15 : decode cX7_order 15 = .ok (.iaload, 1) := by decide +kernel
theorem dX7_order_16 : decode cX7_order 16 = .ok (.ifCond .eq 13, 3) := by decide +kernel
theorem dX7_order_19 : decode cX7_order 19 = .ok (.aload_n 0, 1) := by decide +kernel
theorem dX7_order_20 : decode cX7_order 20 = .ok (.getfield 31, 3) := by decide +kernel
theorem dX7_order_23 : decode cX7_order 23 = .ok (.iload_n 1, 1) := by decide +kernel
theorem dX7_order_24 : decode cX7_order 24 = .ok (.iaload, 1) := by decide +kernel
theorem dX7_order_25 : decode cX7_order 25 = .ok (.iconst 2, 1) := by decide +kernel
theorem dX7_order_26 : decode cX7_order 26 = .ok (.if_icmp .ne 17, 3) := by decide +kernel
theorem dX7_order_29 : decode cX7_order 29 = .ok (.aload_n 0, 1) := by decide +kernel
theorem dX7_order_30 : decode cX7_order 30 = .ok (.getfield 34, 3) := by decide +kernel
theorem dX7_order_33 : decode cX7_order 33 = .ok (.iload_n 1, 1) := by decide +kernel
theorem dX7_order_34 : decode cX7_order 34 = .ok (.iaload, 1) := by decide +kernel
theorem dX7_order_35 : decode cX7_order 35 = .ok (.iconst (-1), 1) := by decide +kernel
theorem dX7_order_36 : decode cX7_order 36 = .ok (.if_icmp .ne 7, 3) := by decide +kernel
theorem dX7_order_39 : decode cX7_order 39 = .ok (.iconst 1, 1) := by decide +kernel
theorem dX7_order_40 : decode cX7_order 40 = .ok (.goto 4, 3) := by decide +kernel
theorem dX7_order_43 : decode cX7_order 43 = .ok (.iconst 0, 1) := by decide +kernel
theorem dX7_order_44 : decode cX7_order 44 = .ok (.istore 4, 2) := by decide +kernel
theorem dX7_order_46 : decode cX7_order 46 = .ok (.aload_n 0, 1) := by decide +kernel
theorem dX7_order_47 : decode cX7_order 47 = .ok (.iload_n 3, 1) := by decide +kernel
theorem dX7_order_48 : decode cX7_order 48 = .ok (.ifCond .ne 7, 3) := by decide +kernel
theorem dX7_order_51 : decode cX7_order 51 = .ok (.iconst 1, 1) := by decide +kernel
theorem dX7_order_52 : decode cX7_order 52 = .ok (.goto 33, 3) := by decide +kernel
theorem dX7_order_55 : decode cX7_order 55 = .ok (.iload_n 2, 1) := by decide +kernel
theorem dX7_order_56 : decode cX7_order 56 = .ok (.aload_n 0, 1) := by decide +kernel
theorem dX7_order_57 : decode cX7_order 57 = .ok (.getfield 89, 3) := by decide +kernel
theorem dX7_order_60 : decode cX7_order 60 = .ok (.iconst 1, 1) := by decide +kernel
theorem dX7_order_61 : decode cX7_order 61 = .ok (.iadd, 1) := by decide +kernel
theorem dX7_order_62 : decode cX7_order 62 = .ok (.sipush 3000, 3) := by decide +kernel
theorem dX7_order_65 : decode cX7_order 65 = .ok (.invokestatic 78, 3) := by decide +kernel
theorem dX7_order_68 : decode cX7_order 68 = .ok (.ifCond .ne 7, 3) := by decide +kernel
theorem dX7_order_71 : decode cX7_order 71 = .ok (.iconst 2, 1) := by decide +kernel
theorem dX7_order_72 : decode cX7_order 72 = .ok (.goto 13, 3) := by decide +kernel
theorem dX7_order_75 : decode cX7_order 75 = .ok (.iload 4, 2) := by decide +kernel
theorem dX7_order_77 : decode cX7_order 77 = .ok (.ifCond .eq 7, 3) := by decide +kernel
theorem dX7_order_80 : decode cX7_order 80 = .ok (.iconst 0, 1) := by decide +kernel
theorem dX7_order_81 : decode cX7_order 81 = .ok (.goto 4, 3) := by decide +kernel
theorem dX7_order_84 : decode cX7_order 84 = .ok (.iconst 3, 1) := by decide +kernel
theorem dX7_order_85 : decode cX7_order 85 = .ok (.invokevirtual 85, 3) := by decide +kernel
theorem dX7_order_88 : decode cX7_order 88 = .ok (.ifCond .ne 5, 3) := by decide +kernel
theorem dX7_order_91 : decode cX7_order 91 = .ok (.iconst 0, 1) := by decide +kernel
theorem dX7_order_92 : decode cX7_order 92 = .ok (.ireturn, 1) := by decide +kernel
theorem dX7_order_93 : decode cX7_order 93 = .ok (.aload_n 0, 1) := by decide +kernel
theorem dX7_order_94 : decode cX7_order 94 = .ok (.getfield 34, 3) := by decide +kernel
theorem dX7_order_97 : decode cX7_order 97 = .ok (.iload_n 1, 1) := by decide +kernel
theorem dX7_order_98 : decode cX7_order 98 = .ok (.iload_n 2, 1) := by decide +kernel
theorem dX7_order_99 : decode cX7_order 99 = .ok (.iastore, 1) := by decide +kernel
theorem dX7_order_100 : decode cX7_order 100 = .ok (.aload_n 0, 1) := by decide +kernel
theorem dX7_order_101 : decode cX7_order 101 = .ok (.invokevirtual 102, 3) := by decide +kernel
theorem dX7_order_104 : decode cX7_order 104 = .ok (.ireturn, 1) := by decide +kernel
theorem dX7_cancel_0 : decode cX7_cancel 0 = .ok (.aload_n 0, 1) := by decide +kernel
theorem dX7_cancel_1 : decode cX7_cancel 1 = .ok (.iload_n 1, 1) := by decide +kernel
theorem dX7_cancel_2 : decode cX7_cancel 2 = .ok (.invokevirtual 99, 3) := by decide +kernel
theorem dX7_cancel_5 : decode cX7_cancel 5 = .ok (.istore_n 2, 1) := by decide +kernel
theorem dX7_cancel_6 : decode cX7_cancel 6 = .ok (.aload_n 0, 1) := by decide +kernel
theorem dX7_cancel_7 : decode cX7_cancel 7 = .ok (.iload_n 2, 1) := by decide +kernel
theorem dX7_cancel_8 : decode cX7_cancel 8 = .ok (.ifCond .ne 7, 3) := by decide +kernel
theorem dX7_cancel_11 : decode cX7_cancel 11 = .ok (.iconst 1, 1) := by decide +kernel
theorem dX7_cancel_12 : decode cX7_cancel 12 = .ok (.goto 18, 3) := by decide +kernel
theorem dX7_cancel_15 : decode cX7_cancel 15 = .ok (.aload_n 0, 1) := by decide +kernel
theorem dX7_cancel_16 : decode cX7_cancel 16 = .ok (.getfield 34, 3) := by decide +kernel
theorem dX7_cancel_19 : decode cX7_cancel 19 = .ok (.iload_n 1, 1) := by decide +kernel
theorem dX7_cancel_20 : decode cX7_cancel 20 = .ok (.iaload, 1) := by decide +kernel
theorem dX7_cancel_21 : decode cX7_cancel 21 = .ok (.iconst (-1), 1) := by decide +kernel
theorem dX7_cancel_22 : decode cX7_cancel 22 = .ok (.if_icmp .ne 7, 3) := by decide +kernel
theorem dX7_cancel_25 : decode cX7_cancel 25 = .ok (.iconst 2, 1) := by decide +kernel
theorem dX7_cancel_26 : decode cX7_cancel 26 = .ok (.goto 4, 3) := by decide +kernel
theorem dX7_cancel_29 : decode cX7_cancel 29 = .ok (.iconst 0, 1) := by decide +kernel
theorem dX7_cancel_30 : decode cX7_cancel 30 = .ok (.invokevirtual 85, 3) := by decide +kernel
theorem dX7_cancel_33 : decode cX7_cancel 33 = .ok (.ifCond .ne 5, 3) := by decide +kernel
theorem dX7_cancel_36 : decode cX7_cancel 36 = .ok (.iconst 0, 1) := by decide +kernel
theorem dX7_cancel_37 : decode cX7_cancel 37 = .ok (.ireturn, 1) := by decide +kernel
theorem dX7_cancel_38 : decode cX7_cancel 38 = .ok (.aload_n 0, 1) := by decide +kernel
theorem dX7_cancel_39 : decode cX7_cancel 39 = .ok (.getfield 34, 3) := by decide +kernel
theorem dX7_cancel_42 : decode cX7_cancel 42 = .ok (.iload_n 1, 1) := by decide +kernel
theorem dX7_cancel_43 : decode cX7_cancel 43 = .ok (.iaload, 1) := by decide +kernel
theorem dX7_cancel_44 : decode cX7_cancel 44 = .ok (.istore_n 3, 1) := by decide +kernel
theorem dX7_cancel_45 : decode cX7_cancel 45 = .ok (.aload_n 0, 1) := by decide +kernel
theorem dX7_cancel_46 : decode cX7_cancel 46 = .ok (.getfield 34, 3) := by decide +kernel
theorem dX7_cancel_49 : decode cX7_cancel 49 = .ok (.iload_n 1, 1) := by decide +kernel
theorem dX7_cancel_50 : decode cX7_cancel 50 = .ok (.iconst (-1), 1) := by decide +kernel
theorem dX7_cancel_51 : decode cX7_cancel 51 = .ok (.iastore, 1) := by decide +kernel
theorem dX7_cancel_52 : decode cX7_cancel 52 = .ok (.iload_n 3, 1) := by decide +kernel
theorem dX7_cancel_53 : decode cX7_cancel 53 = .ok (.ireturn, 1) := by decide +kernel
theorem dX7_hasWater_0 : decode cX7_hasWater 0 = .ok (.aload_n 0, 1) := by decide +kernel
theorem dX7_hasWater_1 : decode cX7_hasWater 1 = .ok (.aload_n 0, 1) := by decide +kernel
theorem dX7_hasWater_2 : decode cX7_hasWater 2 = .ok (.iload_n 1, 1) := by decide +kernel
theorem dX7_hasWater_3 : decode cX7_hasWater 3 = .ok (.invokevirtual 99, 3) := by decide +kernel
theorem dX7_hasWater_6 : decode cX7_hasWater 6 = .ok (.ifCond .ne 7, 3) := by decide +kernel
theorem dX7_hasWater_9 : decode cX7_hasWater 9 = .ok (.iconst 1, 1) := by decide +kernel
theorem dX7_hasWater_10 : decode cX7_hasWater 10 = .ok (.goto 19, 3) := by decide +kernel
theorem dX7_hasWater_13 : decode cX7_hasWater 13 = .ok (.iload_n 2, 1) := by decide +kernel
theorem dX7_hasWater_14 : decode cX7_hasWater 14 = .ok (.iconst 0, 1) := by decide +kernel
theorem dX7_hasWater_15 : decode cX7_hasWater 15 = .ok (.sipush 3000, 3) := by decide +kernel
theorem dX7_hasWater_18 : decode cX7_hasWater 18 = .ok (.invokestatic 78, 3) := by decide +kernel
theorem dX7_hasWater_21 : decode cX7_hasWater 21 = .ok (.ifCond .eq 7, 3) := by decide +kernel
theorem dX7_hasWater_24 : decode cX7_hasWater 24 = .ok (.iconst 0, 1) := by decide +kernel
theorem dX7_hasWater_25 : decode cX7_hasWater 25 = .ok (.goto 4, 3) := by decide +kernel
theorem dX7_hasWater_28 : decode cX7_hasWater 28 = .ok (.iconst 2, 1) := by decide +kernel
theorem dX7_hasWater_29 : decode cX7_hasWater 29 = .ok (.invokevirtual 85, 3) := by decide +kernel
theorem dX7_hasWater_32 : decode cX7_hasWater 32 = .ok (.ifCond .eq 16, 3) := by decide +kernel
theorem dX7_hasWater_35 : decode cX7_hasWater 35 = .ok (.aload_n 0, 1) := by decide +kernel
theorem dX7_hasWater_36 : decode cX7_hasWater 36 = .ok (.iload_n 1, 1) := by decide +kernel
theorem dX7_hasWater_37 : decode cX7_hasWater 37 = .ok (.iload_n 2, 1) := by decide +kernel
theorem dX7_hasWater_38 : decode cX7_hasWater 38 = .ok (.invokevirtual 106, 3) := by decide +kernel
theorem dX7_hasWater_41 : decode cX7_hasWater 41 = .ok (.ifCond .eq 7, 3) := by decide +kernel
theorem dX7_hasWater_44 : decode cX7_hasWater 44 = .ok (.iconst 1, 1) := by decide +kernel
theorem dX7_hasWater_45 : decode cX7_hasWater 45 = .ok (.goto 4, 3) := by decide +kernel
theorem dX7_hasWater_48 : decode cX7_hasWater 48 = .ok (.iconst 0, 1) := by decide +kernel
theorem dX7_hasWater_49 : decode cX7_hasWater 49 = .ok (.ireturn, 1) := by decide +kernel
theorem dX7_state_0 : decode cX7_state 0 = .ok (.aload_n 0, 1) := by decide +kernel
theorem dX7_state_1 : decode cX7_state 1 = .ok (.aload_n 0, 1) := by decide +kernel
theorem dX7_state_2 : decode cX7_state 2 = .ok (.iload_n 1, 1) := by decide +kernel
theorem dX7_state_3 : decode cX7_state 3 = .ok (.invokevirtual 99, 3) := by decide +kernel
theorem dX7_state_6 : decode cX7_state 6 = .ok (.ifCond .eq 7, 3) := by decide +kernel
theorem dX7_state_9 : decode cX7_state 9 = .ok (.iconst 0, 1) := by decide +kernel
theorem dX7_state_10 : decode cX7_state 10 = .ok (.goto 4, 3) := by decide +kernel
theorem dX7_state_13 : decode cX7_state 13 = .ok (.iconst 1, 1) := by decide +kernel
theorem dX7_state_14 : decode cX7_state 14 = .ok (.invokevirtual 85, 3) := by decide +kernel
theorem dX7_state_17 : decode cX7_state 17 = .ok (.ifCond .eq 12, 3) := by decide +kernel
theorem dX7_state_20 : decode cX7_state 20 = .ok (.aload_n 0, 1) := by decide +kernel
theorem dX7_state_21 : decode cX7_state 21 = .ok (.getfield 31, 3) := by decide +kernel
theorem dX7_state_24 : decode cX7_state 24 = .ok (.iload_n 1, 1) := by decide +kernel
theorem dX7_state_25 : decode cX7_state 25 = .ok (.iaload, 1) := by decide +kernel
theorem dX7_state_26 : decode cX7_state 26 = .ok (.goto 4, 3) := by decide +kernel
theorem dX7_state_29 : decode cX7_state 29 = .ok (.iconst 0, 1) := by decide +kernel
theorem dX7_state_30 : decode cX7_state 30 = .ok (.ireturn, 1) := by decide +kernel
theorem dX7_isAhead_0 : decode cX7_isAhead 0 = .ok (.aload_n 0, 1) := by decide +kernel
theorem dX7_isAhead_1 : decode cX7_isAhead 1 = .ok (.getfield 25, 3) := by decide +kernel
theorem dX7_isAhead_4 : decode cX7_isAhead 4 = .ok (.iload_n 1, 1) := by decide +kernel
theorem dX7_isAhead_5 : decode cX7_isAhead 5 = .ok (.iaload, 1) := by decide +kernel
theorem dX7_isAhead_6 : decode cX7_isAhead 6 = .ok (.aload_n 0, 1) := by decide +kernel
theorem dX7_isAhead_7 : decode cX7_isAhead 7 = .ok (.getfield 25, 3) := by decide +kernel
theorem dX7_isAhead_10 : decode cX7_isAhead 10 = .ok (.iload_n 2, 1) := by decide +kernel
theorem dX7_isAhead_11 : decode cX7_isAhead 11 = .ok (.iaload, 1) := by decide +kernel
theorem dX7_isAhead_12 : decode cX7_isAhead 12 = .ok (.if_icmp .eq 24, 3) := by decide +kernel
theorem dX7_isAhead_15 : decode cX7_isAhead 15 = .ok (.aload_n 0, 1) := by decide +kernel
theorem dX7_isAhead_16 : decode cX7_isAhead 16 = .ok (.getfield 25, 3) := by decide +kernel
theorem dX7_isAhead_19 : decode cX7_isAhead 19 = .ok (.iload_n 1, 1) := by decide +kernel
theorem dX7_isAhead_20 : decode cX7_isAhead 20 = .ok (.iaload, 1) := by decide +kernel
theorem dX7_isAhead_21 : decode cX7_isAhead 21 = .ok (.aload_n 0, 1) := by decide +kernel
theorem dX7_isAhead_22 : decode cX7_isAhead 22 = .ok (.getfield 25, 3) := by decide +kernel
theorem dX7_isAhead_25 : decode cX7_isAhead 25 = .ok (.iload_n 2, 1) := by decide +kernel
theorem dX7_isAhead_26 : decode cX7_isAhead 26 = .ok (.iaload, 1) := by decide +kernel
theorem dX7_isAhead_27 : decode cX7_isAhead 27 = .ok (.if_icmp .le 7, 3) := by decide +kernel
theorem dX7_isAhead_30 : decode cX7_isAhead 30 = .ok (.iconst 1, 1) := by decide +kernel
theorem dX7_isAhead_31 : decode cX7_isAhead 31 = .ok (.goto 4, 3) := by decide +kernel
theorem dX7_isAhead_34 : decode cX7_isAhead 34 = .ok (.iconst 0, 1) := by decide +kernel
theorem dX7_isAhead_35 : decode cX7_isAhead 35 = .ok (.ireturn, 1) := by decide +kernel
theorem dX7_isAhead_36 : decode cX7_isAhead 36 = .ok (.aload_n 0, 1) := by decide +kernel
theorem dX7_isAhead_37 : decode cX7_isAhead 37 = .ok (.getfield 34, 3) := by decide +kernel
theorem dX7_isAhead_40 : decode cX7_isAhead 40 = .ok (.iload_n 1, 1) := by decide +kernel
theorem dX7_isAhead_41 : decode cX7_isAhead 41 = .ok (.iaload, 1) := by decide +kernel
theorem dX7_isAhead_42 : decode cX7_isAhead 42 = .ok (.aload_n 0, 1) := by decide +kernel
theorem dX7_isAhead_43 : decode cX7_isAhead 43 = .ok (.getfield 34, 3) := by decide +kernel
theorem dX7_isAhead_46 : decode cX7_isAhead 46 = .ok (.iload_n 2, 1) := by decide +kernel
theorem dX7_isAhead_47 : decode cX7_isAhead 47 = .ok (.iaload, 1) := by decide +kernel
theorem dX7_isAhead_48 : decode cX7_isAhead 48 = .ok (.if_icmp .lt 23, 3) := by decide +kernel
theorem dX7_isAhead_51 : decode cX7_isAhead 51 = .ok (.aload_n 0, 1) := by decide +kernel
theorem dX7_isAhead_52 : decode cX7_isAhead 52 = .ok (.getfield 34, 3) := by decide +kernel
theorem dX7_isAhead_55 : decode cX7_isAhead 55 = .ok (.iload_n 1, 1) := by decide +kernel
theorem dX7_isAhead_56 : decode cX7_isAhead 56 = .ok (.iaload, 1) := by decide +kernel
theorem dX7_isAhead_57 : decode cX7_isAhead 57 = .ok (.aload_n 0, 1) := by decide +kernel
theorem dX7_isAhead_58 : decode cX7_isAhead 58 = .ok (.getfield 34, 3) := by decide +kernel
theorem dX7_isAhead_61 : decode cX7_isAhead 61 = .ok (.iload_n 2, 1) := by decide +kernel
theorem dX7_isAhead_62 : decode cX7_isAhead 62 = .ok (.iaload, 1) := by decide +kernel
theorem dX7_isAhead_63 : decode cX7_isAhead 63 = .ok (.if_icmp .ne 12, 3) := by decide +kernel
theorem dX7_isAhead_66 : decode cX7_isAhead 66 = .ok (.iload_n 1, 1) := by decide +kernel
theorem dX7_isAhead_67 : decode cX7_isAhead 67 = .ok (.iload_n 2, 1) := by decide +kernel
theorem dX7_isAhead_68 : decode cX7_isAhead 68 = .ok (.if_icmp .ge 7, 3) := by decide +kernel
theorem dX7_isAhead_71 : decode cX7_isAhead 71 = .ok (.iconst 1, 1) := by decide +kernel
theorem dX7_isAhead_72 : decode cX7_isAhead 72 = .ok (.goto 4, 3) := by decide +kernel
theorem dX7_isAhead_75 : decode cX7_isAhead 75 = .ok (.iconst 0, 1) := by decide +kernel
theorem dX7_isAhead_76 : decode cX7_isAhead 76 = .ok (.ireturn, 1) := by decide +kernel
theorem dX7_queue_0 : decode cX7_queue 0 = .ok (.aload_n 0, 1) := by decide +kernel
theorem dX7_queue_1 : decode cX7_queue 1 = .ok (.aload_n 0, 1) := by decide +kernel
theorem dX7_queue_2 : decode cX7_queue 2 = .ok (.iload_n 1, 1) := by decide +kernel
theorem dX7_queue_3 : decode cX7_queue 3 = .ok (.invokevirtual 99, 3) := by decide +kernel
theorem dX7_queue_6 : decode cX7_queue 6 = .ok (.ifCond .eq 7, 3) := by decide +kernel
theorem dX7_queue_9 : decode cX7_queue 9 = .ok (.iconst 0, 1) := by decide +kernel
theorem dX7_queue_10 : decode cX7_queue 10 = .ok (.goto 4, 3) := by decide +kernel
theorem dX7_queue_13 : decode cX7_queue 13 = .ok (.iconst 1, 1) := by decide +kernel
theorem dX7_queue_14 : decode cX7_queue 14 = .ok (.invokevirtual 85, 3) := by decide +kernel
theorem dX7_queue_17 : decode cX7_queue 17 = .ok (.ifCond .ne 5, 3) := by decide +kernel
theorem dX7_queue_20 : decode cX7_queue 20 = .ok (.iconst 0, 1) := by decide +kernel
theorem dX7_queue_21 : decode cX7_queue 21 = .ok (.ireturn, 1) := by decide +kernel
theorem dX7_queue_22 : decode cX7_queue 22 = .ok (.iconst 0, 1) := by decide +kernel
theorem dX7_queue_23 : decode cX7_queue 23 = .ok (.istore_n 2, 1) := by decide +kernel
theorem dX7_queue_24 : decode cX7_queue 24 = .ok (.iconst 0, 1) := by decide +kernel
theorem dX7_queue_25 : decode cX7_queue 25 = .ok (.istore_n 3, 1) := by decide +kernel
theorem dX7_queue_26 : decode cX7_queue 26 = .ok (.iload_n 3, 1) := by decide +kernel
theorem dX7_queue_27 : decode cX7_queue 27 = .ok (.aload_n 0, 1) := by decide +kernel
theorem dX7_queue_28 : decode cX7_queue 28 = .ok (.getfield 75, 3) := by decide +kernel
theorem dX7_queue_31 : decode cX7_queue 31 = .ok (.if_icmp .ge 36, 3) := by decide +kernel
theorem dX7_queue_34 : decode cX7_queue 34 = .ok (.iload_n 2, 1) := by decide +kernel
theorem dX7_queue_35 : decode cX7_queue 35 = .ok (.aload_n 0, 1) := by decide +kernel
theorem dX7_queue_36 : decode cX7_queue 36 = .ok (.getfield 34, 3) := by decide +kernel
theorem dX7_queue_39 : decode cX7_queue 39 = .ok (.iload_n 3, 1) := by decide +kernel
theorem dX7_queue_40 : decode cX7_queue 40 = .ok (.iaload, 1) := by decide +kernel
theorem dX7_queue_41 : decode cX7_queue 41 = .ok (.iconst (-1), 1) := by decide +kernel
theorem dX7_queue_42 : decode cX7_queue 42 = .ok (.if_icmp .eq 16, 3) := by decide +kernel
theorem dX7_queue_45 : decode cX7_queue 45 = .ok (.aload_n 0, 1) := by decide +kernel
theorem dX7_queue_46 : decode cX7_queue 46 = .ok (.iload_n 3, 1) := by decide +kernel
theorem dX7_queue_47 : decode cX7_queue 47 = .ok (.iload_n 1, 1) := by decide +kernel
theorem dX7_queue_48 : decode cX7_queue 48 = .ok (.invokevirtual 110, 3) := by decide +kernel
theorem dX7_queue_51 : decode cX7_queue 51 = .ok (.ifCond .eq 7, 3) := by decide +kernel
theorem dX7_queue_54 : decode cX7_queue 54 = .ok (.iconst 1, 1) := by decide +kernel
theorem dX7_queue_55 : decode cX7_queue 55 = .ok (.goto 4, 3) := by decide +kernel
theorem dX7_queue_58 : decode cX7_queue 58 = .ok (.iconst 0, 1) := by decide +kernel
theorem dX7_queue_59 : decode cX7_queue 59 = .ok (.iadd, 1) := by decide +kernel
theorem dX7_queue_60 : decode cX7_queue 60 = .ok (.istore_n 2, 1) := by decide +kernel
theorem dX7_queue_61 : decode cX7_queue 61 = .ok (.iinc 3 1, 3) := by decide +kernel
theorem dX7_queue_64 : decode cX7_queue 64 = .ok (.goto (-38), 3) := by decide +kernel
theorem dX7_queue_67 : decode cX7_queue 67 = .ok (.aload_n 0, 1) := by decide +kernel
theorem dX7_queue_68 : decode cX7_queue 68 = .ok (.getfield 34, 3) := by decide +kernel
theorem dX7_queue_71 : decode cX7_queue 71 = .ok (.iload_n 1, 1) := by decide +kernel
theorem dX7_queue_72 : decode cX7_queue 72 = .ok (.iaload, 1) := by decide +kernel
theorem dX7_queue_73 : decode cX7_queue 73 = .ok (.iconst (-1), 1) := by decide +kernel
theorem dX7_queue_74 : decode cX7_queue 74 = .ok (.if_icmp .ne 7, 3) := by decide +kernel
theorem dX7_queue_77 : decode cX7_queue 77 = .ok (.iconst (-1), 1) := by decide +kernel
theorem dX7_queue_78 : decode cX7_queue 78 = .ok (.goto 4, 3) := by decide +kernel
theorem dX7_queue_81 : decode cX7_queue 81 = .ok (.iload_n 2, 1) := by decide +kernel
theorem dX7_queue_82 : decode cX7_queue 82 = .ok (.ireturn, 1) := by decide +kernel
theorem dX7_isPilotReady_0 : decode cX7_isPilotReady 0 = .ok (.iconst 0, 1) := by decide +kernel
theorem dX7_isPilotReady_1 : decode cX7_isPilotReady 1 = .ok (.istore_n 2, 1) := by decide +kernel
theorem dX7_isPilotReady_2 : decode cX7_isPilotReady 2 = .ok (.iconst 0, 1) := by decide +kernel
theorem dX7_isPilotReady_3 : decode cX7_isPilotReady 3 = .ok (.istore_n 3, 1) := by decide +kernel
theorem dX7_isPilotReady_4 : decode cX7_isPilotReady 4 = .ok (.iconst 0, 1) := by decide +kernel
theorem dX7_isPilotReady_5 : decode cX7_isPilotReady 5 = .ok (.istore 4, 2) := by decide +kernel
theorem dX7_isPilotReady_7 : decode cX7_isPilotReady 7 = .ok (.iload 4, 2) := by decide +kernel
theorem dX7_isPilotReady_9 : decode cX7_isPilotReady 9 = .ok (.aload_n 0, 1) := by decide +kernel
theorem dX7_isPilotReady_10 : decode cX7_isPilotReady 10 = .ok (.getfield 82, 3) := by decide +kernel
theorem dX7_isPilotReady_13 : decode cX7_isPilotReady 13 = .ok (.if_icmp .ge 83, 3) := by decide +kernel
theorem dX7_isPilotReady_16 : decode cX7_isPilotReady 16 = .ok (.iload_n 2, 1) := by decide +kernel
theorem dX7_isPilotReady_17 : decode cX7_isPilotReady 17 = .ok (.ifCond .ne 31, 3) := by decide +kernel
theorem dX7_isPilotReady_20 : decode cX7_isPilotReady 20 = .ok (.aload_n 0, 1) := by decide +kernel
theorem dX7_isPilotReady_21 : decode cX7_isPilotReady 21 = .ok (.getfield 61, 3) := by decide +kernel
theorem dX7_isPilotReady_24 : decode cX7_isPilotReady 24 = .ok (.iload 4, 2) := by decide +kernel
theorem dX7_isPilotReady_26 : decode cX7_isPilotReady 26 = .ok (.iaload, 1) := by decide +kernel
theorem dX7_isPilotReady_27 : decode cX7_isPilotReady 27 = .ok (.iload_n 1, 1) := by decide +kernel
theorem dX7_isPilotReady_28 : decode cX7_isPilotReady 28 = .ok (.if_icmp .ne 24, 3) := by decide +kernel
theorem dX7_isPilotReady_31 : decode cX7_isPilotReady 31 = .ok (.aload_n 0, 1) := by decide +kernel
theorem dX7_isPilotReady_32 : decode cX7_isPilotReady 32 = .ok (.getfield 89, 3) := by decide +kernel
theorem dX7_isPilotReady_35 : decode cX7_isPilotReady 35 = .ok (.aload_n 0, 1) := by decide +kernel
theorem dX7_isPilotReady_36 : decode cX7_isPilotReady 36 = .ok (.getfield 55, 3) := by decide +kernel
theorem dX7_isPilotReady_39 : decode cX7_isPilotReady 39 = .ok (.iload 4, 2) := by decide +kernel
theorem dX7_isPilotReady_41 : decode cX7_isPilotReady 41 = .ok (.iaload, 1) := by decide +kernel
theorem dX7_isPilotReady_42 : decode cX7_isPilotReady 42 = .ok (.isub, 1) := by decide +kernel
theorem dX7_isPilotReady_43 : decode cX7_isPilotReady 43 = .ok (.bipush 6, 2) := by decide +kernel
theorem dX7_isPilotReady_45 : decode cX7_isPilotReady 45 = .ok (.if_icmp .ge 7, 3) := by decide +kernel
theorem dX7_isPilotReady_48 : decode cX7_isPilotReady 48 = .ok (.iconst 1, 1) := by decide +kernel
theorem dX7_isPilotReady_49 : decode cX7_isPilotReady 49 = .ok (.goto 4, 3) := by decide +kernel
theorem dX7_isPilotReady_52 : decode cX7_isPilotReady 52 = .ok (.iconst 0, 1) := by decide +kernel
theorem dX7_isPilotReady_53 : decode cX7_isPilotReady 53 = .ok (.istore_n 2, 1) := by decide +kernel
theorem dX7_isPilotReady_54 : decode cX7_isPilotReady 54 = .ok (.iload_n 3, 1) := by decide +kernel
theorem dX7_isPilotReady_55 : decode cX7_isPilotReady 55 = .ok (.aload_n 0, 1) := by decide +kernel
theorem dX7_isPilotReady_56 : decode cX7_isPilotReady 56 = .ok (.getfield 61, 3) := by decide +kernel
theorem dX7_isPilotReady_59 : decode cX7_isPilotReady 59 = .ok (.iload 4, 2) := by decide +kernel
theorem dX7_isPilotReady_61 : decode cX7_isPilotReady 61 = .ok (.iaload, 1) := by decide +kernel
theorem dX7_isPilotReady_62 : decode cX7_isPilotReady 62 = .ok (.iload_n 1, 1) := by decide +kernel
theorem dX7_isPilotReady_63 : decode cX7_isPilotReady 63 = .ok (.if_icmp .ne 24, 3) := by decide +kernel
theorem dX7_isPilotReady_66 : decode cX7_isPilotReady 66 = .ok (.aload_n 0, 1) := by decide +kernel
theorem dX7_isPilotReady_67 : decode cX7_isPilotReady 67 = .ok (.getfield 89, 3) := by decide +kernel
theorem dX7_isPilotReady_70 : decode cX7_isPilotReady 70 = .ok (.aload_n 0, 1) := by decide +kernel
theorem dX7_isPilotReady_71 : decode cX7_isPilotReady 71 = .ok (.getfield 55, 3) := by decide +kernel
theorem dX7_isPilotReady_74 : decode cX7_isPilotReady 74 = .ok (.iload 4, 2) := by decide +kernel
theorem dX7_isPilotReady_76 : decode cX7_isPilotReady 76 = .ok (.iaload, 1) := by decide +kernel
theorem dX7_isPilotReady_77 : decode cX7_isPilotReady 77 = .ok (.isub, 1) := by decide +kernel
theorem dX7_isPilotReady_78 : decode cX7_isPilotReady 78 = .ok (.bipush 24, 2) := by decide +kernel
theorem dX7_isPilotReady_80 : decode cX7_isPilotReady 80 = .ok (.if_icmp .ge 7, 3) := by decide +kernel
theorem dX7_isPilotReady_83 : decode cX7_isPilotReady 83 = .ok (.iconst 1, 1) := by decide +kernel
theorem dX7_isPilotReady_84 : decode cX7_isPilotReady 84 = .ok (.goto 4, 3) := by decide +kernel
theorem dX7_isPilotReady_87 : decode cX7_isPilotReady 87 = .ok (.iconst 0, 1) := by decide +kernel
theorem dX7_isPilotReady_88 : decode cX7_isPilotReady 88 = .ok (.iadd, 1) := by decide +kernel
theorem dX7_isPilotReady_89 : decode cX7_isPilotReady 89 = .ok (.istore_n 3, 1) := by decide +kernel
theorem dX7_isPilotReady_90 : decode cX7_isPilotReady 90 = .ok (.iinc 4 1, 3) := by decide +kernel
theorem dX7_isPilotReady_93 : decode cX7_isPilotReady 93 = .ok (.goto (-86), 3) := by decide +kernel
theorem dX7_isPilotReady_96 : decode cX7_isPilotReady 96 = .ok (.iload_n 2, 1) := by decide +kernel
theorem dX7_isPilotReady_97 : decode cX7_isPilotReady 97 = .ok (.ifCond .ne 12, 3) := by decide +kernel
theorem dX7_isPilotReady_100 : decode cX7_isPilotReady 100 = .ok (.iload_n 3, 1) := by decide +kernel
theorem dX7_isPilotReady_101 : decode cX7_isPilotReady 101 = .ok (.iconst 3, 1) := by decide +kernel
theorem dX7_isPilotReady_102 : decode cX7_isPilotReady 102 = .ok (.if_icmp .ge 7, 3) := by decide +kernel
theorem dX7_isPilotReady_105 : decode cX7_isPilotReady 105 = .ok (.iconst 1, 1) := by decide +kernel
theorem dX7_isPilotReady_106 : decode cX7_isPilotReady 106 = .ok (.goto 4, 3) := by decide +kernel
theorem dX7_isPilotReady_109 : decode cX7_isPilotReady 109 = .ok (.iconst 0, 1) := by decide +kernel
theorem dX7_isPilotReady_110 : decode cX7_isPilotReady 110 = .ok (.ireturn, 1) := by decide +kernel
theorem dX7_tugsNow_0 : decode cX7_tugsNow 0 = .ok (.iconst 0, 1) := by decide +kernel
theorem dX7_tugsNow_1 : decode cX7_tugsNow 1 = .ok (.istore_n 1, 1) := by decide +kernel
theorem dX7_tugsNow_2 : decode cX7_tugsNow 2 = .ok (.iconst 0, 1) := by decide +kernel
theorem dX7_tugsNow_3 : decode cX7_tugsNow 3 = .ok (.istore_n 2, 1) := by decide +kernel
theorem dX7_tugsNow_4 : decode cX7_tugsNow 4 = .ok (.iload_n 2, 1) := by decide +kernel
theorem dX7_tugsNow_5 : decode cX7_tugsNow 5 = .ok (.bipush 6, 2) := by decide +kernel
theorem dX7_tugsNow_7 : decode cX7_tugsNow 7 = .ok (.if_icmp .ge 101, 3) := by decide +kernel
theorem dX7_tugsNow_10 : decode cX7_tugsNow 10 = .ok (.aload_n 0, 1) := by decide +kernel
theorem dX7_tugsNow_11 : decode cX7_tugsNow 11 = .ok (.getfield 89, 3) := by decide +kernel
theorem dX7_tugsNow_14 : decode cX7_tugsNow 14 = .ok (.bipush 8, 2) := by decide +kernel
theorem dX7_tugsNow_16 : decode cX7_tugsNow 16 = .ok (.idiv, 1) := by decide +kernel
theorem dX7_tugsNow_17 : decode cX7_tugsNow 17 = .ok (.iload_n 2, 1) := by decide +kernel
theorem dX7_tugsNow_18 : decode cX7_tugsNow 18 = .ok (.iadd, 1) := by decide +kernel
theorem dX7_tugsNow_19 : decode cX7_tugsNow 19 = .ok (.iconst 3, 1) := by decide +kernel
theorem dX7_tugsNow_20 : decode cX7_tugsNow 20 = .ok (.irem, 1) := by decide +kernel
theorem dX7_tugsNow_21 : decode cX7_tugsNow 21 = .ok (.ifCond .eq 7, 3) := by decide +kernel
theorem dX7_tugsNow_24 : decode cX7_tugsNow 24 = .ok (.iconst 1, 1) := by decide +kernel
theorem dX7_tugsNow_25 : decode cX7_tugsNow 25 = .ok (.goto 4, 3) := by decide +kernel
theorem dX7_tugsNow_28 : decode cX7_tugsNow 28 = .ok (.iconst 0, 1) := by decide +kernel
theorem dX7_tugsNow_29 : decode cX7_tugsNow 29 = .ok (.istore_n 3, 1) := by decide +kernel
theorem dX7_tugsNow_30 : decode cX7_tugsNow 30 = .ok (.iconst 0, 1) := by decide +kernel
theorem dX7_tugsNow_31 : decode cX7_tugsNow 31 = .ok (.istore 4, 2) := by decide +kernel
theorem dX7_tugsNow_33 : decode cX7_tugsNow 33 = .ok (.iload 4, 2) := by decide +kernel
theorem dX7_tugsNow_35 : decode cX7_tugsNow 35 = .ok (.aload_n 0, 1) := by decide +kernel
theorem dX7_tugsNow_36 : decode cX7_tugsNow 36 = .ok (.getfield 82, 3) := by decide +kernel
theorem dX7_tugsNow_39 : decode cX7_tugsNow 39 = .ok (.if_icmp .ge 49, 3) := by decide +kernel
theorem dX7_tugsNow_42 : decode cX7_tugsNow 42 = .ok (.iload_n 3, 1) := by decide +kernel
theorem dX7_tugsNow_43 : decode cX7_tugsNow 43 = .ok (.ifCond .eq 37, 3) := by decide +kernel
theorem dX7_tugsNow_46 : decode cX7_tugsNow 46 = .ok (.aload_n 0, 1) := by decide +kernel
theorem dX7_tugsNow_47 : decode cX7_tugsNow 47 = .ok (.getfield 64, 3) := by decide +kernel
theorem dX7_tugsNow_50 : decode cX7_tugsNow 50 = .ok (.iload 4, 2) := by decide +kernel
theorem dX7_tugsNow_52 : decode cX7_tugsNow 52 = .ok (.iaload, 1) := by decide +kernel
theorem dX7_tugsNow_53 : decode cX7_tugsNow 53 = .ok (.iload_n 2, 1) := by decide +kernel
theorem dX7_tugsNow_54 : decode cX7_tugsNow 54 = .ok (.ishr, 1) := by decide +kernel
theorem dX7_tugsNow_55 : decode cX7_tugsNow 55 = .ok (.iconst 1, 1) := by decide +kernel
theorem dX7_tugsNow_56 : decode cX7_tugsNow 56 = .ok (.iand, 1) := by decide +kernel
theorem dX7_tugsNow_57 : decode cX7_tugsNow 57 = .ok (.ifCond .eq 19, 3) := by decide +kernel
theorem dX7_tugsNow_60 : decode cX7_tugsNow 60 = .ok (.aload_n 0, 1) := by decide +kernel
theorem dX7_tugsNow_61 : decode cX7_tugsNow 61 = .ok (.getfield 89, 3) := by decide +kernel
theorem dX7_tugsNow_64 : decode cX7_tugsNow 64 = .ok (.aload_n 0, 1) := by decide +kernel
theorem dX7_tugsNow_65 : decode cX7_tugsNow 65 = .ok (.getfield 55, 3) := by decide +kernel
theorem dX7_tugsNow_68 : decode cX7_tugsNow 68 = .ok (.iload 4, 2) := by decide +kernel
theorem dX7_tugsNow_70 : decode cX7_tugsNow 70 = .ok (.iaload, 1) := by decide +kernel
theorem dX7_tugsNow_71 : decode cX7_tugsNow 71 = .ok (.isub, 1) := by decide +kernel
theorem dX7_tugsNow_72 : decode cX7_tugsNow 72 = .ok (.iconst 3, 1) := by decide +kernel
theorem dX7_tugsNow_73 : decode cX7_tugsNow 73 = .ok (.if_icmp .lt 7, 3) := by decide +kernel
theorem dX7_tugsNow_76 : decode cX7_tugsNow 76 = .ok (.iconst 1, 1) := by decide +kernel
theorem dX7_tugsNow_77 : decode cX7_tugsNow 77 = .ok (.goto 4, 3) := by decide +kernel
theorem dX7_tugsNow_80 : decode cX7_tugsNow 80 = .ok (.iconst 0, 1) := by decide +kernel
theorem dX7_tugsNow_81 : decode cX7_tugsNow 81 = .ok (.istore_n 3, 1) := by decide +kernel
theorem dX7_tugsNow_82 : decode cX7_tugsNow 82 = .ok (.iinc 4 1, 3) := by decide +kernel
theorem dX7_tugsNow_85 : decode cX7_tugsNow 85 = .ok (.goto (-52), 3) := by decide +kernel
theorem dX7_tugsNow_88 : decode cX7_tugsNow 88 = .ok (.iload_n 1, 1) := by decide +kernel
theorem dX7_tugsNow_89 : decode cX7_tugsNow 89 = .ok (.iload_n 3, 1) := by decide +kernel
theorem dX7_tugsNow_90 : decode cX7_tugsNow 90 = .ok (.ifCond .eq 9, 3) := by decide +kernel
theorem dX7_tugsNow_93 : decode cX7_tugsNow 93 = .ok (.iconst 1, 1) := by decide +kernel
theorem dX7_tugsNow_94 : decode cX7_tugsNow 94 = .ok (.iload_n 2, 1) := by decide +kernel
theorem dX7_tugsNow_95 : decode cX7_tugsNow 95 = .ok (.ishl, 1) := by decide +kernel
theorem dX7_tugsNow_96 : decode cX7_tugsNow 96 = .ok (.goto 4, 3) := by decide +kernel
theorem dX7_tugsNow_99 : decode cX7_tugsNow 99 = .ok (.iconst 0, 1) := by decide +kernel
theorem dX7_tugsNow_100 : decode cX7_tugsNow 100 = .ok (.ior, 1) := by decide +kernel
theorem dX7_tugsNow_101 : decode cX7_tugsNow 101 = .ok (.istore_n 1, 1) := by decide +kernel
theorem dX7_tugsNow_102 : decode cX7_tugsNow 102 = .ok (.iinc 2 1, 3) := by decide +kernel
theorem dX7_tugsNow_105 : decode cX7_tugsNow 105 = .ok (.goto (-101), 3) := by decide +kernel
theorem dX7_tugsNow_108 : decode cX7_tugsNow 108 = .ok (.iload_n 1, 1) := by decide +kernel
theorem dX7_tugsNow_109 : decode cX7_tugsNow 109 = .ok (.ireturn, 1) := by decide +kernel
theorem dX7_firstReady_0 : decode cX7_firstReady 0 = .ok (.iconst (-1), 1) := by decide +kernel
theorem dX7_firstReady_1 : decode cX7_firstReady 1 = .ok (.istore_n 1, 1) := by decide +kernel
theorem dX7_firstReady_2 : decode cX7_firstReady 2 = .ok (.iconst 5, 1) := by decide +kernel
theorem dX7_firstReady_3 : decode cX7_firstReady 3 = .ok (.istore_n 2, 1) := by decide +kernel
theorem dX7_firstReady_4 : decode cX7_firstReady 4 = .ok (.iload_n 2, 1) := by decide +kernel
theorem dX7_firstReady_5 : decode cX7_firstReady 5 = .ok (.ifCond .lt 28, 3) := by decide +kernel
theorem dX7_firstReady_8 : decode cX7_firstReady 8 = .ok (.aload_n 0, 1) := by decide +kernel
theorem dX7_firstReady_9 : decode cX7_firstReady 9 = .ok (.aload_n 0, 1) := by decide +kernel
theorem dX7_firstReady_10 : decode cX7_firstReady 10 = .ok (.getfield 49, 3) := by decide +kernel
theorem dX7_firstReady_13 : decode cX7_firstReady 13 = .ok (.iload_n 2, 1) := by decide +kernel
theorem dX7_firstReady_14 : decode cX7_firstReady 14 = .ok (.iaload, 1) := by decide +kernel
theorem dX7_firstReady_15 : decode cX7_firstReady 15 = .ok (.invokevirtual 113, 3) := by decide +kernel
theorem dX7_firstReady_18 : decode cX7_firstReady 18 = .ok (.ifCond .eq 7, 3) := by decide +kernel
theorem dX7_firstReady_21 : decode cX7_firstReady 21 = .ok (.iload_n 2, 1) := by decide +kernel
theorem dX7_firstReady_22 : decode cX7_firstReady 22 = .ok (.goto 4, 3) := by decide +kernel
theorem dX7_firstReady_25 : decode cX7_firstReady 25 = .ok (.iload_n 1, 1) := by decide +kernel
theorem dX7_firstReady_26 : decode cX7_firstReady 26 = .ok (.istore_n 1, 1) := by decide +kernel
theorem dX7_firstReady_27 : decode cX7_firstReady 27 = .ok (.iinc 2 (-1), 3) := by decide +kernel
theorem dX7_firstReady_30 : decode cX7_firstReady 30 = .ok (.goto (-26), 3) := by decide +kernel
theorem dX7_firstReady_33 : decode cX7_firstReady 33 = .ok (.iload_n 1, 1) := by decide +kernel
theorem dX7_firstReady_34 : decode cX7_firstReady 34 = .ok (.ireturn, 1) := by decide +kernel
theorem dX7_placeOf_0 : decode cX7_placeOf 0 = .ok (.iconst (-1), 1) := by decide +kernel
theorem dX7_placeOf_1 : decode cX7_placeOf 1 = .ok (.istore_n 2, 1) := by decide +kernel
theorem dX7_placeOf_2 : decode cX7_placeOf 2 = .ok (.iconst 0, 1) := by decide +kernel
theorem dX7_placeOf_3 : decode cX7_placeOf 3 = .ok (.istore_n 3, 1) := by decide +kernel
theorem dX7_placeOf_4 : decode cX7_placeOf 4 = .ok (.iload_n 3, 1) := by decide +kernel
theorem dX7_placeOf_5 : decode cX7_placeOf 5 = .ok (.bipush 6, 2) := by decide +kernel
theorem dX7_placeOf_7 : decode cX7_placeOf 7 = .ok (.if_icmp .ge 25, 3) := by decide +kernel
theorem dX7_placeOf_10 : decode cX7_placeOf 10 = .ok (.aload_n 0, 1) := by decide +kernel
theorem dX7_placeOf_11 : decode cX7_placeOf 11 = .ok (.getfield 49, 3) := by decide +kernel
theorem dX7_placeOf_14 : decode cX7_placeOf 14 = .ok (.iload_n 3, 1) := by decide +kernel
theorem dX7_placeOf_15 : decode cX7_placeOf 15 = .ok (.iaload, 1) := by decide +kernel
theorem dX7_placeOf_16 : decode cX7_placeOf 16 = .ok (.iload_n 1, 1) := by decide +kernel
theorem dX7_placeOf_17 : decode cX7_placeOf 17 = .ok (.if_icmp .ne 7, 3) := by decide +kernel
theorem dX7_placeOf_20 : decode cX7_placeOf 20 = .ok (.iload_n 3, 1) := by decide +kernel
theorem dX7_placeOf_21 : decode cX7_placeOf 21 = .ok (.goto 4, 3) := by decide +kernel
theorem dX7_placeOf_24 : decode cX7_placeOf 24 = .ok (.iload_n 2, 1) := by decide +kernel
theorem dX7_placeOf_25 : decode cX7_placeOf 25 = .ok (.istore_n 2, 1) := by decide +kernel
theorem dX7_placeOf_26 : decode cX7_placeOf 26 = .ok (.iinc 3 1, 3) := by decide +kernel
theorem dX7_placeOf_29 : decode cX7_placeOf 29 = .ok (.goto (-25), 3) := by decide +kernel
theorem dX7_placeOf_32 : decode cX7_placeOf 32 = .ok (.iload_n 2, 1) := by decide +kernel
theorem dX7_placeOf_33 : decode cX7_placeOf 33 = .ok (.ireturn, 1) := by decide +kernel
theorem dX7_isPilot_0 : decode cX7_isPilot 0 = .ok (.iload_n 0, 1) := by decide +kernel
theorem dX7_isPilot_1 : decode cX7_isPilot 1 = .ok (.iconst 0, 1) := by decide +kernel
theorem dX7_isPilot_2 : decode cX7_isPilot 2 = .ok (.iconst 5, 1) := by decide +kernel
theorem dX7_isPilot_3 : decode cX7_isPilot 3 = .ok (.invokestatic 78, 3) := by decide +kernel
theorem dX7_isPilot_6 : decode cX7_isPilot 6 = .ok (.ireturn, 1) := by decide +kernel
theorem dX7_swap_0 : decode cX7_swap 0 = .ok (.aload_n 0, 1) := by decide +kernel
theorem dX7_swap_1 : decode cX7_swap 1 = .ok (.iload_n 1, 1) := by decide +kernel
theorem dX7_swap_2 : decode cX7_swap 2 = .ok (.invokestatic 116, 3) := by decide +kernel
theorem dX7_swap_5 : decode cX7_swap 5 = .ok (.ifCond .eq 10, 3) := by decide +kernel
theorem dX7_swap_8 : decode cX7_swap 8 = .ok (.iload_n 2, 1) := by decide +kernel
theorem dX7_swap_9 : decode cX7_swap 9 = .ok (.invokestatic 116, 3) := by decide +kernel
theorem dX7_swap_12 : decode cX7_swap 12 = .ok (.ifCond .ne 7, 3) := by decide +kernel
theorem dX7_swap_15 : decode cX7_swap 15 = .ok (.iconst 1, 1) := by decide +kernel
theorem dX7_swap_16 : decode cX7_swap 16 = .ok (.goto 13, 3) := by decide +kernel
theorem dX7_swap_19 : decode cX7_swap 19 = .ok (.iload_n 1, 1) := by decide +kernel
theorem dX7_swap_20 : decode cX7_swap 20 = .ok (.iload_n 2, 1) := by decide +kernel
theorem dX7_swap_21 : decode cX7_swap 21 = .ok (.if_icmp .ne 7, 3) := by decide +kernel
theorem dX7_swap_24 : decode cX7_swap 24 = .ok (.iconst 2, 1) := by decide +kernel
theorem dX7_swap_25 : decode cX7_swap 25 = .ok (.goto 4, 3) := by decide +kernel
theorem dX7_swap_28 : decode cX7_swap 28 = .ok (.iconst 0, 1) := by decide +kernel
theorem dX7_swap_29 : decode cX7_swap 29 = .ok (.invokevirtual 85, 3) := by decide +kernel
theorem dX7_swap_32 : decode cX7_swap 32 = .ok (.ifCond .ne 5, 3) := by decide +kernel
theorem dX7_swap_35 : decode cX7_swap 35 = .ok (.iconst 0, 1) := by decide +kernel
theorem dX7_swap_36 : decode cX7_swap 36 = .ok (.ireturn, 1) := by decide +kernel
theorem dX7_swap_37 : decode cX7_swap 37 = .ok (.aload_n 0, 1) := by decide +kernel
theorem dX7_swap_38 : decode cX7_swap 38 = .ok (.iload_n 1, 1) := by decide +kernel
theorem dX7_swap_39 : decode cX7_swap 39 = .ok (.invokevirtual 119, 3) := by decide +kernel
theorem dX7_swap_42 : decode cX7_swap 42 = .ok (.istore_n 3, 1) := by decide +kernel
theorem dX7_swap_43 : decode cX7_swap 43 = .ok (.aload_n 0, 1) := by decide +kernel
theorem dX7_swap_44 : decode cX7_swap 44 = .ok (.iload_n 2, 1) := by decide +kernel
theorem dX7_swap_45 : decode cX7_swap 45 = .ok (.invokevirtual 119, 3) := by decide +kernel
theorem dX7_swap_48 : decode cX7_swap 48 = .ok (.istore 4, 2) := by decide +kernel
theorem dX7_swap_50 : decode cX7_swap 50 = .ok (.aload_n 0, 1) := by decide +kernel
theorem dX7_swap_51 : decode cX7_swap 51 = .ok (.getfield 49, 3) := by decide +kernel
theorem dX7_swap_54 : decode cX7_swap 54 = .ok (.iload_n 3, 1) := by decide +kernel
theorem dX7_swap_55 : decode cX7_swap 55 = .ok (.iload_n 2, 1) := by decide +kernel
theorem dX7_swap_56 : decode cX7_swap 56 = .ok (.iastore, 1) := by decide +kernel
theorem dX7_swap_57 : decode cX7_swap 57 = .ok (.aload_n 0, 1) := by decide +kernel
theorem dX7_swap_58 : decode cX7_swap 58 = .ok (.getfield 49, 3) := by decide +kernel
theorem dX7_swap_61 : decode cX7_swap 61 = .ok (.iload 4, 2) := by decide +kernel
theorem dX7_swap_63 : decode cX7_swap 63 = .ok (.iload_n 1, 1) := by decide +kernel
theorem dX7_swap_64 : decode cX7_swap 64 = .ok (.iastore, 1) := by decide +kernel
theorem dX7_swap_65 : decode cX7_swap 65 = .ok (.iload 4, 2) := by decide +kernel
theorem dX7_swap_67 : decode cX7_swap 67 = .ok (.ireturn, 1) := by decide +kernel
theorem dX7_rota_0 : decode cX7_rota 0 = .ok (.aload_n 0, 1) := by decide +kernel
theorem dX7_rota_1 : decode cX7_rota 1 = .ok (.iload_n 1, 1) := by decide +kernel
theorem dX7_rota_2 : decode cX7_rota 2 = .ok (.invokestatic 116, 3) := by decide +kernel
theorem dX7_rota_5 : decode cX7_rota 5 = .ok (.ifCond .eq 7, 3) := by decide +kernel
theorem dX7_rota_8 : decode cX7_rota 8 = .ok (.iconst 0, 1) := by decide +kernel
theorem dX7_rota_9 : decode cX7_rota 9 = .ok (.goto 4, 3) := by decide +kernel
theorem dX7_rota_12 : decode cX7_rota 12 = .ok (.iconst 1, 1) := by decide +kernel
theorem dX7_rota_13 : decode cX7_rota 13 = .ok (.invokevirtual 85, 3) := by decide +kernel
theorem dX7_rota_16 : decode cX7_rota 16 = .ok (.ifCond .eq 12, 3) := by decide +kernel
theorem dX7_rota_19 : decode cX7_rota 19 = .ok (.aload_n 0, 1) := by decide +kernel
theorem dX7_rota_20 : decode cX7_rota 20 = .ok (.getfield 49, 3) := by decide +kernel
theorem dX7_rota_23 : decode cX7_rota 23 = .ok (.iload_n 1, 1) := by decide +kernel
theorem dX7_rota_24 : decode cX7_rota 24 = .ok (.iaload, 1) := by decide +kernel
theorem dX7_rota_25 : decode cX7_rota 25 = .ok (.goto 4, 3) := by decide +kernel
theorem dX7_rota_28 : decode cX7_rota 28 = .ok (.iconst 0, 1) := by decide +kernel
theorem dX7_rota_29 : decode cX7_rota 29 = .ok (.ireturn, 1) := by decide +kernel
theorem dX7_isReady_0 : decode cX7_isReady 0 = .ok (.aload_n 0, 1) := by decide +kernel
theorem dX7_isReady_1 : decode cX7_isReady 1 = .ok (.iload_n 1, 1) := by decide +kernel
theorem dX7_isReady_2 : decode cX7_isReady 2 = .ok (.invokestatic 116, 3) := by decide +kernel
theorem dX7_isReady_5 : decode cX7_isReady 5 = .ok (.ifCond .eq 7, 3) := by decide +kernel
theorem dX7_isReady_8 : decode cX7_isReady 8 = .ok (.iconst 0, 1) := by decide +kernel
theorem dX7_isReady_9 : decode cX7_isReady 9 = .ok (.goto 4, 3) := by decide +kernel
theorem dX7_isReady_12 : decode cX7_isReady 12 = .ok (.iconst 1, 1) := by decide +kernel
theorem dX7_isReady_13 : decode cX7_isReady 13 = .ok (.invokevirtual 85, 3) := by decide +kernel
theorem dX7_isReady_16 : decode cX7_isReady 16 = .ok (.ifCond .eq 15, 3) := by decide +kernel
theorem dX7_isReady_19 : decode cX7_isReady 19 = .ok (.aload_n 0, 1) := by decide +kernel
theorem dX7_isReady_20 : decode cX7_isReady 20 = .ok (.iload_n 1, 1) := by decide +kernel
theorem dX7_isReady_21 : decode cX7_isReady 21 = .ok (.invokevirtual 113, 3) := by decide +kernel
theorem dX7_isReady_24 : decode cX7_isReady 24 = .ok (.ifCond .eq 7, 3) := by decide +kernel
theorem dX7_isReady_27 : decode cX7_isReady 27 = .ok (.iconst 1, 1) := by decide +kernel
theorem dX7_isReady_28 : decode cX7_isReady 28 = .ok (.goto 4, 3) := by decide +kernel
theorem dX7_isReady_31 : decode cX7_isReady 31 = .ok (.iconst 0, 1) := by decide +kernel
theorem dX7_isReady_32 : decode cX7_isReady 32 = .ok (.ireturn, 1) := by decide +kernel
theorem dX7_tugs_0 : decode cX7_tugs 0 = .ok (.aload_n 0, 1) := by decide +kernel
theorem dX7_tugs_1 : decode cX7_tugs 1 = .ok (.iconst 0, 1) := by decide +kernel
theorem dX7_tugs_2 : decode cX7_tugs 2 = .ok (.putfield 71, 3) := by decide +kernel
theorem dX7_tugs_5 : decode cX7_tugs 5 = .ok (.aload_n 0, 1) := by decide +kernel
theorem dX7_tugs_6 : decode cX7_tugs 6 = .ok (.invokevirtual 122, 3) := by decide +kernel
theorem dX7_tugs_9 : decode cX7_tugs 9 = .ok (.ireturn, 1) := by decide +kernel
theorem dX7_isFree_0 : decode cX7_isFree 0 = .ok (.iconst 1, 1) := by decide +kernel
theorem dX7_isFree_1 : decode cX7_isFree 1 = .ok (.istore_n 2, 1) := by decide +kernel
theorem dX7_isFree_2 : decode cX7_isFree 2 = .ok (.iconst 0, 1) := by decide +kernel
theorem dX7_isFree_3 : decode cX7_isFree 3 = .ok (.istore_n 3, 1) := by decide +kernel
theorem dX7_isFree_4 : decode cX7_isFree 4 = .ok (.iload_n 3, 1) := by decide +kernel
theorem dX7_isFree_5 : decode cX7_isFree 5 = .ok (.aload_n 0, 1) := by decide +kernel
theorem dX7_isFree_6 : decode cX7_isFree 6 = .ok (.getfield 75, 3) := by decide +kernel
theorem dX7_isFree_9 : decode cX7_isFree 9 = .ok (.if_icmp .ge 48, 3) := by decide +kernel
theorem dX7_isFree_12 : decode cX7_isFree 12 = .ok (.iload_n 2, 1) := by decide +kernel
theorem dX7_isFree_13 : decode cX7_isFree 13 = .ok (.ifCond .eq 36, 3) := by decide +kernel
theorem dX7_isFree_16 : decode cX7_isFree 16 = .ok (.aload_n 0, 1) := by decide +kernel
theorem dX7_isFree_17 : decode cX7_isFree 17 = .ok (.getfield 28, 3) := by decide +kernel
theorem dX7_isFree_20 : decode cX7_isFree 20 = .ok (.iload_n 3, 1) := by decide +kernel
theorem dX7_isFree_21 : decode cX7_isFree 21 = .ok (.iaload, 1) := by decide +kernel
theorem dX7_isFree_22 : decode cX7_isFree 22 = .ok (.iload_n 1, 1) := by decide +kernel
theorem dX7_isFree_23 : decode cX7_isFree 23 = .ok (.if_icmp .ne 22, 3) := by decide +kernel
theorem dX7_isFree_26 : decode cX7_isFree 26 = .ok (.aload_n 0, 1) := by decide +kernel
theorem dX7_isFree_27 : decode cX7_isFree 27 = .ok (.getfield 31, 3) := by decide +kernel
theorem dX7_isFree_30 : decode cX7_isFree 30 = .ok (.iload_n 3, 1) := by decide +kernel
theorem dX7_isFree_31 : decode cX7_isFree 31 = .ok (.iaload, 1) := by decide +kernel
theorem dX7_isFree_32 : decode cX7_isFree 32 = .ok (.ifCond .eq 13, 3) := by decide +kernel
theorem dX7_isFree_35 : decode cX7_isFree 35 = .ok (.aload_n 0, 1) := by decide +kernel
theorem dX7_isFree_36 : decode cX7_isFree 36 = .ok (.getfield 31, 3) := by decide +kernel
theorem dX7_isFree_39 : decode cX7_isFree 39 = .ok (.iload_n 3, 1) := by decide +kernel
theorem dX7_isFree_40 : decode cX7_isFree 40 = .ok (.iaload, 1) := by decide +kernel
theorem dX7_isFree_41 : decode cX7_isFree 41 = .ok (.iconst 4, 1) := by decide +kernel
theorem dX7_isFree_42 : decode cX7_isFree 42 = .ok (.if_icmp .ne 7, 3) := by decide +kernel
theorem dX7_isFree_45 : decode cX7_isFree 45 = .ok (.iconst 1, 1) := by decide +kernel
theorem dX7_isFree_46 : decode cX7_isFree 46 = .ok (.goto 4, 3) := by decide +kernel
theorem dX7_isFree_49 : decode cX7_isFree 49 = .ok (.iconst 0, 1) := by decide +kernel
theorem dX7_isFree_50 : decode cX7_isFree 50 = .ok (.istore_n 2, 1) := by decide +kernel
theorem dX7_isFree_51 : decode cX7_isFree 51 = .ok (.iinc 3 1, 3) := by decide +kernel
theorem dX7_isFree_54 : decode cX7_isFree 54 = .ok (.goto (-50), 3) := by decide +kernel
theorem dX7_isFree_57 : decode cX7_isFree 57 = .ok (.iload_n 2, 1) := by decide +kernel
theorem dX7_isFree_58 : decode cX7_isFree 58 = .ok (.ireturn, 1) := by decide +kernel
theorem dX7_many_0 : decode cX7_many 0 = .ok (.iconst 0, 1) := by decide +kernel
theorem dX7_many_1 : decode cX7_many 1 = .ok (.istore_n 1, 1) := by decide +kernel
theorem dX7_many_2 : decode cX7_many 2 = .ok (.iload_n 0, 1) := by decide +kernel
theorem dX7_many_3 : decode cX7_many 3 = .ok (.istore_n 2, 1) := by decide +kernel
theorem dX7_many_4 : decode cX7_many 4 = .ok (.iload_n 2, 1) := by decide +kernel
theorem dX7_many_5 : decode cX7_many 5 = .ok (.ifCond .le 16, 3) := by decide +kernel
theorem dX7_many_8 : decode cX7_many 8 = .ok (.iload_n 1, 1) := by decide +kernel
theorem dX7_many_9 : decode cX7_many 9 = .ok (.iload_n 2, 1) := by decide +kernel
theorem dX7_many_10 : decode cX7_many 10 = .ok (.iconst 2, 1) := by decide +kernel
theorem dX7_many_11 : decode cX7_many 11 = .ok (.irem, 1) := by decide +kernel
theorem dX7_many_12 : decode cX7_many 12 = .ok (.iadd, 1) := by decide +kernel
theorem dX7_many_13 : decode cX7_many 13 = .ok (.istore_n 1, 1) := by decide +kernel
theorem dX7_many_14 : decode cX7_many 14 = .ok (.iload_n 2, 1) := by decide +kernel
theorem dX7_many_15 : decode cX7_many 15 = .ok (.iconst 2, 1) := by decide +kernel
theorem dX7_many_16 : decode cX7_many 16 = .ok (.idiv, 1) := by decide +kernel
theorem dX7_many_17 : decode cX7_many 17 = .ok (.istore_n 2, 1) := by decide +kernel
theorem dX7_many_18 : decode cX7_many 18 = .ok (.goto (-14), 3) := by decide +kernel
theorem dX7_many_21 : decode cX7_many 21 = .ok (.iload_n 1, 1) := by decide +kernel
theorem dX7_many_22 : decode cX7_many 22 = .ok (.ireturn, 1) := by decide +kernel
theorem dX7_lowest_0 : decode cX7_lowest 0 = .ok (.iconst 0, 1) := by decide +kernel
theorem dX7_lowest_1 : decode cX7_lowest 1 = .ok (.istore_n 2, 1) := by decide +kernel
theorem dX7_lowest_2 : decode cX7_lowest 2 = .ok (.iconst 0, 1) := by decide +kernel
theorem dX7_lowest_3 : decode cX7_lowest 3 = .ok (.istore_n 3, 1) := by decide +kernel
theorem dX7_lowest_4 : decode cX7_lowest 4 = .ok (.iconst 0, 1) := by decide +kernel
theorem dX7_lowest_5 : decode cX7_lowest 5 = .ok (.istore 4, 2) := by decide +kernel
theorem dX7_lowest_7 : decode cX7_lowest 7 = .ok (.iload 4, 2) := by decide +kernel
theorem dX7_lowest_9 : decode cX7_lowest 9 = .ok (.bipush 6, 2) := by decide +kernel
theorem dX7_lowest_11 : decode cX7_lowest 11 = .ok (.if_icmp .ge 60, 3) := by decide +kernel
theorem dX7_lowest_14 : decode cX7_lowest 14 = .ok (.iload_n 0, 1) := by decide +kernel
theorem dX7_lowest_15 : decode cX7_lowest 15 = .ok (.iload 4, 2) := by decide +kernel
theorem dX7_lowest_17 : decode cX7_lowest 17 = .ok (.ishr, 1) := by decide +kernel
theorem dX7_lowest_18 : decode cX7_lowest 18 = .ok (.iconst 1, 1) := by decide +kernel
theorem dX7_lowest_19 : decode cX7_lowest 19 = .ok (.iand, 1) := by decide +kernel
theorem dX7_lowest_20 : decode cX7_lowest 20 = .ok (.iconst 1, 1) := by decide +kernel
theorem dX7_lowest_21 : decode cX7_lowest 21 = .ok (.if_icmp .ne 12, 3) := by decide +kernel
theorem dX7_lowest_24 : decode cX7_lowest 24 = .ok (.iload_n 3, 1) := by decide +kernel
theorem dX7_lowest_25 : decode cX7_lowest 25 = .ok (.iload_n 1, 1) := by decide +kernel
theorem dX7_lowest_26 : decode cX7_lowest 26 = .ok (.if_icmp .ge 7, 3) := by decide +kernel
theorem dX7_lowest_29 : decode cX7_lowest 29 = .ok (.iconst 1, 1) := by decide +kernel
theorem dX7_lowest_30 : decode cX7_lowest 30 = .ok (.goto 4, 3) := by decide +kernel
theorem dX7_lowest_33 : decode cX7_lowest 33 = .ok (.iconst 0, 1) := by decide +kernel
theorem dX7_lowest_34 : decode cX7_lowest 34 = .ok (.istore 5, 2) := by decide +kernel
theorem dX7_lowest_36 : decode cX7_lowest 36 = .ok (.iload_n 2, 1) := by decide +kernel
theorem dX7_lowest_37 : decode cX7_lowest 37 = .ok (.iload 5, 2) := by decide +kernel
theorem dX7_lowest_39 : decode cX7_lowest 39 = .ok (.ifCond .eq 10, 3) := by decide +kernel
theorem dX7_lowest_42 : decode cX7_lowest 42 = .ok (.iconst 1, 1) := by decide +kernel
theorem dX7_lowest_43 : decode cX7_lowest 43 = .ok (.iload 4, 2) := by decide +kernel
theorem dX7_lowest_45 : decode cX7_lowest 45 = .ok (.ishl, 1) := by decide +kernel
theorem dX7_lowest_46 : decode cX7_lowest 46 = .ok (.goto 4, 3) := by decide +kernel
theorem dX7_lowest_49 : decode cX7_lowest 49 = .ok (.iconst 0, 1) := by decide +kernel
theorem dX7_lowest_50 : decode cX7_lowest 50 = .ok (.ior, 1) := by decide +kernel
theorem dX7_lowest_51 : decode cX7_lowest 51 = .ok (.istore_n 2, 1) := by decide +kernel
theorem dX7_lowest_52 : decode cX7_lowest 52 = .ok (.iload_n 3, 1) := by decide +kernel
theorem dX7_lowest_53 : decode cX7_lowest 53 = .ok (.iload 5, 2) := by decide +kernel
theorem dX7_lowest_55 : decode cX7_lowest 55 = .ok (.ifCond .eq 7, 3) := by decide +kernel
theorem dX7_lowest_58 : decode cX7_lowest 58 = .ok (.iconst 1, 1) := by decide +kernel
theorem dX7_lowest_59 : decode cX7_lowest 59 = .ok (.goto 4, 3) := by decide +kernel
theorem dX7_lowest_62 : decode cX7_lowest 62 = .ok (.iconst 0, 1) := by decide +kernel
theorem dX7_lowest_63 : decode cX7_lowest 63 = .ok (.iadd, 1) := by decide +kernel
theorem dX7_lowest_64 : decode cX7_lowest 64 = .ok (.istore_n 3, 1) := by decide +kernel
theorem dX7_lowest_65 : decode cX7_lowest 65 = .ok (.iinc 4 1, 3) := by decide +kernel
theorem dX7_lowest_68 : decode cX7_lowest 68 = .ok (.goto (-61), 3) := by decide +kernel
theorem dX7_lowest_71 : decode cX7_lowest 71 = .ok (.iload_n 2, 1) := by decide +kernel
theorem dX7_lowest_72 : decode cX7_lowest 72 = .ok (.ireturn, 1) := by decide +kernel
theorem dX7_pays_0 : decode cX7_pays 0 = .ok (.aload_n 0, 1) := by decide +kernel
theorem dX7_pays_1 : decode cX7_pays 1 = .ok (.getfield 40, 3) := by decide +kernel
theorem dX7_pays_4 : decode cX7_pays 4 = .ok (.iload_n 1, 1) := by decide +kernel
theorem dX7_pays_5 : decode cX7_pays 5 = .ok (.dup2, 1) := by decide +kernel
theorem dX7_pays_6 : decode cX7_pays 6 = .ok (.iaload, 1) := by decide +kernel
theorem dX7_pays_7 : decode cX7_pays 7 = .ok (.iload_n 2, 1) := by decide +kernel
theorem dX7_pays_8 : decode cX7_pays 8 = .ok (.iadd, 1) := by decide +kernel
theorem dX7_pays_9 : decode cX7_pays 9 = .ok (.iastore, 1) := by decide +kernel
theorem dX7_pays_10 : decode cX7_pays 10 = .ok (.return_, 1) := by decide +kernel
theorem dX7_loses_0 : decode cX7_loses 0 = .ok (.aload_n 0, 1) := by decide +kernel
theorem dX7_loses_1 : decode cX7_loses 1 = .ok (.iload_n 1, 1) := by decide +kernel
theorem dX7_loses_2 : decode cX7_loses 2 = .ok (.bipush 100, 2) := by decide +kernel
theorem dX7_loses_4 : decode cX7_loses 4 = .ok (.invokevirtual 125, 3) := by decide +kernel
theorem dX7_loses_7 : decode cX7_loses 7 = .ok (.aload_n 0, 1) := by decide +kernel
theorem dX7_loses_8 : decode cX7_loses 8 = .ok (.getfield 52, 3) := by decide +kernel
theorem dX7_loses_11 : decode cX7_loses 11 = .ok (.aload_n 0, 1) := by decide +kernel
theorem dX7_loses_12 : decode cX7_loses 12 = .ok (.getfield 49, 3) := by decide +kernel
theorem dX7_loses_15 : decode cX7_loses 15 = .ok (.iconst 0, 1) := by decide +kernel
theorem dX7_loses_16 : decode cX7_loses 16 = .ok (.iaload, 1) := by decide +kernel
theorem dX7_loses_17 : decode cX7_loses 17 = .ok (.dup2, 1) := by decide +kernel
theorem dX7_loses_18 : decode cX7_loses 18 = .ok (.iaload, 1) := by decide +kernel
theorem dX7_loses_19 : decode cX7_loses 19 = .ok (.bipush 50, 2) := by decide +kernel
theorem dX7_loses_21 : decode cX7_loses 21 = .ok (.iadd, 1) := by decide +kernel
theorem dX7_loses_22 : decode cX7_loses 22 = .ok (.iastore, 1) := by decide +kernel
theorem dX7_loses_23 : decode cX7_loses 23 = .ok (.aload_n 0, 1) := by decide +kernel
theorem dX7_loses_24 : decode cX7_loses 24 = .ok (.getfield 52, 3) := by decide +kernel
theorem dX7_loses_27 : decode cX7_loses 27 = .ok (.aload_n 0, 1) := by decide +kernel
theorem dX7_loses_28 : decode cX7_loses 28 = .ok (.getfield 49, 3) := by decide +kernel
theorem dX7_loses_31 : decode cX7_loses 31 = .ok (.iconst 1, 1) := by decide +kernel
theorem dX7_loses_32 : decode cX7_loses 32 = .ok (.iaload, 1) := by decide +kernel
theorem dX7_loses_33 : decode cX7_loses 33 = .ok (.dup2, 1) := by decide +kernel
theorem dX7_loses_34 : decode cX7_loses 34 = .ok (.iaload, 1) := by decide +kernel
theorem dX7_loses_35 : decode cX7_loses 35 = .ok (.bipush 50, 2) := by decide +kernel
theorem dX7_loses_37 : decode cX7_loses 37 = .ok (.iadd, 1) := by decide +kernel
theorem dX7_loses_38 : decode cX7_loses 38 = .ok (.iastore, 1) := by decide +kernel
theorem dX7_loses_39 : decode cX7_loses 39 = .ok (.aload_n 0, 1) := by decide +kernel
theorem dX7_loses_40 : decode cX7_loses 40 = .ok (.getfield 43, 3) := by decide +kernel
theorem dX7_loses_43 : decode cX7_loses 43 = .ok (.iload_n 1, 1) := by decide +kernel
theorem dX7_loses_44 : decode cX7_loses 44 = .ok (.dup2, 1) := by decide +kernel
theorem dX7_loses_45 : decode cX7_loses 45 = .ok (.iaload, 1) := by decide +kernel
theorem dX7_loses_46 : decode cX7_loses 46 = .ok (.iconst 1, 1) := by decide +kernel
theorem dX7_loses_47 : decode cX7_loses 47 = .ok (.iadd, 1) := by decide +kernel
theorem dX7_loses_48 : decode cX7_loses 48 = .ok (.iastore, 1) := by decide +kernel
theorem dX7_loses_49 : decode cX7_loses 49 = .ok (.aload_n 0, 1) := by decide +kernel
theorem dX7_loses_50 : decode cX7_loses 50 = .ok (.getfield 34, 3) := by decide +kernel
theorem dX7_loses_53 : decode cX7_loses 53 = .ok (.iload_n 1, 1) := by decide +kernel
theorem dX7_loses_54 : decode cX7_loses 54 = .ok (.iconst (-1), 1) := by decide +kernel
theorem dX7_loses_55 : decode cX7_loses 55 = .ok (.iastore, 1) := by decide +kernel
theorem dX7_loses_56 : decode cX7_loses 56 = .ok (.return_, 1) := by decide +kernel
theorem dX7_begins_0 : decode cX7_begins 0 = .ok (.aload_n 0, 1) := by decide +kernel
theorem dX7_begins_1 : decode cX7_begins 1 = .ok (.invokevirtual 129, 3) := by decide +kernel
theorem dX7_begins_4 : decode cX7_begins 4 = .ok (.istore_n 2, 1) := by decide +kernel
theorem dX7_begins_5 : decode cX7_begins 5 = .ok (.aload_n 0, 1) := by decide +kernel
theorem dX7_begins_6 : decode cX7_begins 6 = .ok (.getfield 49, 3) := by decide +kernel
theorem dX7_begins_9 : decode cX7_begins 9 = .ok (.iload_n 2, 1) := by decide +kernel
theorem dX7_begins_10 : decode cX7_begins 10 = .ok (.iaload, 1) := by decide +kernel
theorem dX7_begins_11 : decode cX7_begins 11 = .ok (.istore_n 3, 1) := by decide +kernel
theorem dX7_begins_12 : decode cX7_begins 12 = .ok (.iload_n 2, 1) := by decide +kernel
theorem dX7_begins_13 : decode cX7_begins 13 = .ok (.istore 4, 2) := by decide +kernel
theorem dX7_begins_15 : decode cX7_begins 15 = .ok (.iload 4, 2) := by decide +kernel
theorem dX7_begins_17 : decode cX7_begins 17 = .ok (.iconst 5, 1) := by decide +kernel
theorem dX7_begins_18 : decode cX7_begins 18 = .ok (.if_icmp .ge 25, 3) := by decide +kernel
theorem dX7_begins_21 : decode cX7_begins 21 = .ok (.aload_n 0, 1) := by decide +kernel
theorem dX7_begins_22 : decode cX7_begins 22 = .ok (.getfield 49, 3) := by decide +kernel
theorem dX7_begins_25 : decode cX7_begins 25 = .ok (.iload 4, 2) := by decide +kernel
theorem dX7_begins_27 : decode cX7_begins 27 = .ok (.aload_n 0, 1) := by decide +kernel
theorem dX7_begins_28 : decode cX7_begins 28 = .ok (.getfield 49, 3) := by decide +kernel
theorem dX7_begins_31 : decode cX7_begins 31 = .ok (.iload 4, 2) := by decide +kernel
theorem dX7_begins_33 : decode cX7_begins 33 = .ok (.iconst 1, 1) := by decide +kernel
theorem dX7_begins_34 : decode cX7_begins 34 = .ok (.iadd, 1) := by decide +kernel
theorem dX7_begins_35 : decode cX7_begins 35 = .ok (.iaload, 1) := by decide +kernel
theorem dX7_begins_36 : decode cX7_begins 36 = .ok (.iastore, 1) := by decide +kernel
theorem dX7_begins_37 : decode cX7_begins 37 = .ok (.iinc 4 1, 3) := by decide +kernel
theorem dX7_begins_40 : decode cX7_begins 40 = .ok (.goto (-25), 3) := by decide +kernel
theorem dX7_begins_43 : decode cX7_begins 43 = .ok (.aload_n 0, 1) := by decide +kernel
theorem dX7_begins_44 : decode cX7_begins 44 = .ok (.getfield 49, 3) := by decide +kernel
theorem dX7_begins_47 : decode cX7_begins 47 = .ok (.iconst 5, 1) := by decide +kernel
theorem dX7_begins_48 : decode cX7_begins 48 = .ok (.iload_n 3, 1) := by decide +kernel
theorem dX7_begins_49 : decode cX7_begins 49 = .ok (.iastore, 1) := by decide +kernel
theorem dX7_begins_50 : decode cX7_begins 50 = .ok (.aload_n 0, 1) := by decide +kernel
theorem dX7_begins_51 : decode cX7_begins 51 = .ok (.getfield 31, 3) := by decide +kernel
theorem dX7_begins_54 : decode cX7_begins 54 = .ok (.iload_n 1, 1) := by decide +kernel
theorem dX7_begins_55 : decode cX7_begins 55 = .ok (.iaload, 1) := by decide +kernel
theorem dX7_begins_56 : decode cX7_begins 56 = .ok (.ifCond .ne 7, 3) := by decide +kernel
theorem dX7_begins_59 : decode cX7_begins 59 = .ok (.iconst 1, 1) := by decide +kernel
theorem dX7_begins_60 : decode cX7_begins 60 = .ok (.goto 4, 3) := by decide +kernel
theorem dX7_begins_63 : decode cX7_begins 63 = .ok (.iconst 0, 1) := by decide +kernel
theorem dX7_begins_64 : decode cX7_begins 64 = .ok (.istore 4, 2) := by decide +kernel
theorem dX7_begins_66 : decode cX7_begins 66 = .ok (.aload_n 0, 1) := by decide +kernel
theorem dX7_begins_67 : decode cX7_begins 67 = .ok (.getfield 55, 3) := by decide +kernel
theorem dX7_begins_70 : decode cX7_begins 70 = .ok (.aload_n 0, 1) := by decide +kernel
theorem dX7_begins_71 : decode cX7_begins 71 = .ok (.getfield 82, 3) := by decide +kernel
theorem dX7_begins_74 : decode cX7_begins 74 = .ok (.aload_n 0, 1) := by decide +kernel
theorem dX7_begins_75 : decode cX7_begins 75 = .ok (.getfield 89, 3) := by decide +kernel
theorem dX7_begins_78 : decode cX7_begins 78 = .ok (.iastore, 1) := by decide +kernel
theorem dX7_begins_79 : decode cX7_begins 79 = .ok (.aload_n 0, 1) := by decide +kernel
theorem dX7_begins_80 : decode cX7_begins 80 = .ok (.getfield 58, 3) := by decide +kernel
theorem dX7_begins_83 : decode cX7_begins 83 = .ok (.aload_n 0, 1) := by decide +kernel
theorem dX7_begins_84 : decode cX7_begins 84 = .ok (.getfield 82, 3) := by decide +kernel
theorem dX7_begins_87 : decode cX7_begins 87 = .ok (.iload_n 1, 1) := by decide +kernel
theorem dX7_begins_88 : decode cX7_begins 88 = .ok (.iastore, 1) := by decide +kernel
theorem dX7_begins_89 : decode cX7_begins 89 = .ok (.aload_n 0, 1) := by decide +kernel
theorem dX7_begins_90 : decode cX7_begins 90 = .ok (.getfield 61, 3) := by decide +kernel
theorem dX7_begins_93 : decode cX7_begins 93 = .ok (.aload_n 0, 1) := by decide +kernel
theorem dX7_begins_94 : decode cX7_begins 94 = .ok (.getfield 82, 3) := by decide +kernel
theorem dX7_begins_97 : decode cX7_begins 97 = .ok (.iload_n 3, 1) := by decide +kernel
theorem dX7_begins_98 : decode cX7_begins 98 = .ok (.iastore, 1) := by decide +kernel
theorem dX7_begins_99 : decode cX7_begins 99 = .ok (.aload_n 0, 1) := by decide +kernel
theorem dX7_begins_100 : decode cX7_begins 100 = .ok (.getfield 64, 3) := by decide +kernel
theorem dX7_begins_103 : decode cX7_begins 103 = .ok (.aload_n 0, 1) := by decide +kernel
theorem dX7_begins_104 : decode cX7_begins 104 = .ok (.getfield 82, 3) := by decide +kernel
theorem dX7_begins_107 : decode cX7_begins 107 = .ok (.aload_n 0, 1) := by decide +kernel
theorem dX7_begins_108 : decode cX7_begins 108 = .ok (.invokevirtual 122, 3) := by decide +kernel
theorem dX7_begins_111 : decode cX7_begins 111 = .ok (.aload_n 0, 1) := by decide +kernel
theorem dX7_begins_112 : decode cX7_begins 112 = .ok (.getfield 19, 3) := by decide +kernel
theorem dX7_begins_115 : decode cX7_begins 115 = .ok (.iload_n 1, 1) := by decide +kernel
theorem dX7_begins_116 : decode cX7_begins 116 = .ok (.iaload, 1) := by decide +kernel
theorem dX7_begins_117 : decode cX7_begins 117 = .ok (.invokestatic 132, 3) := by decide +kernel
theorem dX7_begins_120 : decode cX7_begins 120 = .ok (.iastore, 1) := by decide +kernel
theorem dX7_begins_121 : decode cX7_begins 121 = .ok (.aload_n 0, 1) := by decide +kernel
theorem dX7_begins_122 : decode cX7_begins 122 = .ok (.getfield 67, 3) := by decide +kernel
theorem dX7_begins_125 : decode cX7_begins 125 = .ok (.aload_n 0, 1) := by decide +kernel
theorem dX7_begins_126 : decode cX7_begins 126 = .ok (.getfield 82, 3) := by decide +kernel
theorem dX7_begins_129 : decode cX7_begins 129 = .ok (.iload 4, 2) := by decide +kernel
theorem dX7_begins_131 : decode cX7_begins 131 = .ok (.ifCond .ne 7, 3) := by decide +kernel
theorem dX7_begins_134 : decode cX7_begins 134 = .ok (.iconst 1, 1) := by decide +kernel
theorem dX7_begins_135 : decode cX7_begins 135 = .ok (.goto 4, 3) := by decide +kernel
theorem dX7_begins_138 : decode cX7_begins 138 = .ok (.iconst 0, 1) := by decide +kernel
theorem dX7_begins_139 : decode cX7_begins 139 = .ok (.bastore, 1) := by decide +kernel
theorem dX7_begins_140 : decode cX7_begins 140 = .ok (.aload_n 0, 1) := by decide +kernel
theorem dX7_begins_141 : decode cX7_begins 141 = .ok (.dup, 1) := by decide +kernel
theorem dX7_begins_142 : decode cX7_begins 142 = .ok (.getfield 82, 3) := by decide +kernel
theorem dX7_begins_145 : decode cX7_begins 145 = .ok (.iconst 1, 1) := by decide +kernel
theorem dX7_begins_146 : decode cX7_begins 146 = .ok (.iadd, 1) := by decide +kernel
theorem dX7_begins_147 : decode cX7_begins 147 = .ok (.putfield 82, 3) := by decide +kernel
theorem dX7_begins_150 : decode cX7_begins 150 = .ok (.aload_n 0, 1) := by decide +kernel
theorem dX7_begins_151 : decode cX7_begins 151 = .ok (.iload_n 1, 1) := by decide +kernel
theorem dX7_begins_152 : decode cX7_begins 152 = .ok (.bipush 50, 2) := by decide +kernel
theorem dX7_begins_154 : decode cX7_begins 154 = .ok (.bipush 30, 2) := by decide +kernel
theorem dX7_begins_156 : decode cX7_begins 156 = .ok (.aload_n 0, 1) := by decide +kernel
theorem dX7_begins_157 : decode cX7_begins 157 = .ok (.getfield 19, 3) := by decide +kernel
theorem dX7_begins_160 : decode cX7_begins 160 = .ok (.iload_n 1, 1) := by decide +kernel
theorem dX7_begins_161 : decode cX7_begins 161 = .ok (.iaload, 1) := by decide +kernel
theorem dX7_begins_162 : decode cX7_begins 162 = .ok (.imul, 1) := by decide +kernel
theorem dX7_begins_163 : decode cX7_begins 163 = .ok (.iadd, 1) := by decide +kernel
theorem dX7_begins_164 : decode cX7_begins 164 = .ok (.iload 4, 2) := by decide +kernel
theorem dX7_begins_166 : decode cX7_begins 166 = .ok (.ifCond .eq 15, 3) := by decide +kernel
theorem dX7_begins_169 : decode cX7_begins 169 = .ok (.bipush 100, 2) := by decide +kernel
theorem dX7_begins_171 : decode cX7_begins 171 = .ok (.aload_n 0, 1) := by decide +kernel
theorem dX7_begins_172 : decode cX7_begins 172 = .ok (.getfield 19, 3) := by decide +kernel
theorem dX7_begins_175 : decode cX7_begins 175 = .ok (.iload_n 1, 1) := by decide +kernel
theorem dX7_begins_176 : decode cX7_begins 176 = .ok (.iaload, 1) := by decide +kernel
theorem dX7_begins_177 : decode cX7_begins 177 = .ok (.imul, 1) := by decide +kernel
theorem dX7_begins_178 : decode cX7_begins 178 = .ok (.goto 4, 3) := by decide +kernel
theorem dX7_begins_181 : decode cX7_begins 181 = .ok (.iconst 0, 1) := by decide +kernel
theorem dX7_begins_182 : decode cX7_begins 182 = .ok (.iadd, 1) := by decide +kernel
theorem dX7_begins_183 : decode cX7_begins 183 = .ok (.invokevirtual 125, 3) := by decide +kernel
theorem dX7_begins_186 : decode cX7_begins 186 = .ok (.aload_n 0, 1) := by decide +kernel
theorem dX7_begins_187 : decode cX7_begins 187 = .ok (.getfield 52, 3) := by decide +kernel
theorem dX7_begins_190 : decode cX7_begins 190 = .ok (.iload_n 3, 1) := by decide +kernel
theorem dX7_begins_191 : decode cX7_begins 191 = .ok (.dup2, 1) := by decide +kernel
theorem dX7_begins_192 : decode cX7_begins 192 = .ok (.iaload, 1) := by decide +kernel
theorem dX7_begins_193 : decode cX7_begins 193 = .ok (.bipush 50, 2) := by decide +kernel
theorem dX7_begins_195 : decode cX7_begins 195 = .ok (.iadd, 1) := by decide +kernel
theorem dX7_begins_196 : decode cX7_begins 196 = .ok (.iastore, 1) := by decide +kernel
theorem dX7_begins_197 : decode cX7_begins 197 = .ok (.aload_n 0, 1) := by decide +kernel
theorem dX7_begins_198 : decode cX7_begins 198 = .ok (.dup, 1) := by decide +kernel
theorem dX7_begins_199 : decode cX7_begins 199 = .ok (.getfield 136, 3) := by decide +kernel
theorem dX7_begins_202 : decode cX7_begins 202 = .ok (.bipush 30, 2) := by decide +kernel
theorem dX7_begins_204 : decode cX7_begins 204 = .ok (.aload_n 0, 1) := by decide +kernel
theorem dX7_begins_205 : decode cX7_begins 205 = .ok (.getfield 19, 3) := by decide +kernel
theorem dX7_begins_208 : decode cX7_begins 208 = .ok (.iload_n 1, 1) := by decide +kernel
theorem dX7_begins_209 : decode cX7_begins 209 = .ok (.iaload, 1) := by decide +kernel
theorem dX7_begins_210 : decode cX7_begins 210 = .ok (.imul, 1) := by decide +kernel
theorem dX7_begins_211 : decode cX7_begins 211 = .ok (.iadd, 1) := by decide +kernel
theorem dX7_begins_212 : decode cX7_begins 212 = .ok (.putfield 136, 3) := by decide +kernel
theorem dX7_begins_215 : decode cX7_begins 215 = .ok (.aload_n 0, 1) := by decide +kernel
theorem dX7_begins_216 : decode cX7_begins 216 = .ok (.dup, 1) := by decide +kernel
theorem dX7_begins_217 : decode cX7_begins 217 = .ok (.getfield 139, 3) := by decide +kernel
theorem dX7_begins_220 : decode cX7_begins 220 = .ok (.iload 4, 2) := by decide +kernel
theorem dX7_begins_222 : decode cX7_begins 222 = .ok (.ifCond .eq 15, 3) := by decide +kernel
theorem dX7_begins_225 : decode cX7_begins 225 = .ok (.bipush 100, 2) := by decide +kernel
theorem dX7_begins_227 : decode cX7_begins 227 = .ok (.aload_n 0, 1) := by decide +kernel
theorem dX7_begins_228 : decode cX7_begins 228 = .ok (.getfield 19, 3) := by decide +kernel
theorem dX7_begins_231 : decode cX7_begins 231 = .ok (.iload_n 1, 1) := by decide +kernel
theorem dX7_begins_232 : decode cX7_begins 232 = .ok (.iaload, 1) := by decide +kernel
theorem dX7_begins_233 : decode cX7_begins 233 = .ok (.imul, 1) := by decide +kernel
theorem dX7_begins_234 : decode cX7_begins 234 = .ok (.goto 4, 3) := by decide +kernel
theorem dX7_begins_237 : decode cX7_begins 237 = .ok (.iconst 0, 1) := by decide +kernel
theorem dX7_begins_238 : decode cX7_begins 238 = .ok (.iadd, 1) := by decide +kernel
theorem dX7_begins_239 : decode cX7_begins 239 = .ok (.putfield 139, 3) := by decide +kernel
theorem dX7_begins_242 : decode cX7_begins 242 = .ok (.aload_n 0, 1) := by decide +kernel
theorem dX7_begins_243 : decode cX7_begins 243 = .ok (.getfield 31, 3) := by decide +kernel
theorem dX7_begins_246 : decode cX7_begins 246 = .ok (.iload_n 1, 1) := by decide +kernel
theorem dX7_begins_247 : decode cX7_begins 247 = .ok (.iload 4, 2) := by decide +kernel
theorem dX7_begins_249 : decode cX7_begins 249 = .ok (.ifCond .eq 7, 3) := by decide +kernel
theorem dX7_begins_252 : decode cX7_begins 252 = .ok (.iconst 1, 1) := by decide +kernel
theorem dX7_begins_253 : decode cX7_begins 253 = .ok (.goto 4, 3) := by decide +kernel
theorem dX7_begins_256 : decode cX7_begins 256 = .ok (.iconst 3, 1) := by decide +kernel
theorem dX7_begins_257 : decode cX7_begins 257 = .ok (.iastore, 1) := by decide +kernel
theorem dX7_begins_258 : decode cX7_begins 258 = .ok (.aload_n 0, 1) := by decide +kernel
theorem dX7_begins_259 : decode cX7_begins 259 = .ok (.getfield 37, 3) := by decide +kernel
theorem dX7_begins_262 : decode cX7_begins 262 = .ok (.iload_n 1, 1) := by decide +kernel
theorem dX7_begins_263 : decode cX7_begins 263 = .ok (.aload_n 0, 1) := by decide +kernel
theorem dX7_begins_264 : decode cX7_begins 264 = .ok (.getfield 89, 3) := by decide +kernel
theorem dX7_begins_267 : decode cX7_begins 267 = .ok (.iastore, 1) := by decide +kernel
theorem dX7_begins_268 : decode cX7_begins 268 = .ok (.aload_n 0, 1) := by decide +kernel
theorem dX7_begins_269 : decode cX7_begins 269 = .ok (.getfield 34, 3) := by decide +kernel
theorem dX7_begins_272 : decode cX7_begins 272 = .ok (.iload_n 1, 1) := by decide +kernel
theorem dX7_begins_273 : decode cX7_begins 273 = .ok (.iconst (-1), 1) := by decide +kernel
theorem dX7_begins_274 : decode cX7_begins 274 = .ok (.iastore, 1) := by decide +kernel
theorem dX7_begins_275 : decode cX7_begins 275 = .ok (.return_, 1) := by decide +kernel
theorem dX7_looksAt_0 : decode cX7_looksAt 0 = .ok (.aload_n 0, 1) := by decide +kernel
theorem dX7_looksAt_1 : decode cX7_looksAt 1 = .ok (.iload_n 1, 1) := by decide +kernel
theorem dX7_looksAt_2 : decode cX7_looksAt 2 = .ok (.aload_n 0, 1) := by decide +kernel
theorem dX7_looksAt_3 : decode cX7_looksAt 3 = .ok (.getfield 89, 3) := by decide +kernel
theorem dX7_looksAt_6 : decode cX7_looksAt 6 = .ok (.invokevirtual 106, 3) := by decide +kernel
theorem dX7_looksAt_9 : decode cX7_looksAt 9 = .ok (.istore_n 2, 1) := by decide +kernel
theorem dX7_looksAt_10 : decode cX7_looksAt 10 = .ok (.iload_n 2, 1) := by decide +kernel
theorem dX7_looksAt_11 : decode cX7_looksAt 11 = .ok (.ifCond .eq 63, 3) := by decide +kernel
theorem dX7_looksAt_14 : decode cX7_looksAt 14 = .ok (.aload_n 0, 1) := by decide +kernel
theorem dX7_looksAt_15 : decode cX7_looksAt 15 = .ok (.getfield 31, 3) := by decide +kernel
theorem dX7_looksAt_18 : decode cX7_looksAt 18 = .ok (.iload_n 1, 1) := by decide +kernel
theorem dX7_looksAt_19 : decode cX7_looksAt 19 = .ok (.iaload, 1) := by decide +kernel
theorem dX7_looksAt_20 : decode cX7_looksAt 20 = .ok (.iconst 2, 1) := by decide +kernel
theorem dX7_looksAt_21 : decode cX7_looksAt 21 = .ok (.if_icmp .eq 16, 3) := by decide +kernel
theorem dX7_looksAt_24 : decode cX7_looksAt 24 = .ok (.aload_n 0, 1) := by decide +kernel
theorem dX7_looksAt_25 : decode cX7_looksAt 25 = .ok (.aload_n 0, 1) := by decide +kernel
theorem dX7_looksAt_26 : decode cX7_looksAt 26 = .ok (.getfield 28, 3) := by decide +kernel
theorem dX7_looksAt_29 : decode cX7_looksAt 29 = .ok (.iload_n 1, 1) := by decide +kernel
theorem dX7_looksAt_30 : decode cX7_looksAt 30 = .ok (.iaload, 1) := by decide +kernel
theorem dX7_looksAt_31 : decode cX7_looksAt 31 = .ok (.invokevirtual 142, 3) := by decide +kernel
theorem dX7_looksAt_34 : decode cX7_looksAt 34 = .ok (.ifCond .eq 40, 3) := by decide +kernel
theorem dX7_looksAt_37 : decode cX7_looksAt 37 = .ok (.aload_n 0, 1) := by decide +kernel
theorem dX7_looksAt_38 : decode cX7_looksAt 38 = .ok (.getfield 82, 3) := by decide +kernel
theorem dX7_looksAt_41 : decode cX7_looksAt 41 = .ok (.bipush 100, 2) := by decide +kernel
theorem dX7_looksAt_43 : decode cX7_looksAt 43 = .ok (.if_icmp .ge 31, 3) := by decide +kernel
theorem dX7_looksAt_46 : decode cX7_looksAt 46 = .ok (.aload_n 0, 1) := by decide +kernel
theorem dX7_looksAt_47 : decode cX7_looksAt 47 = .ok (.invokevirtual 129, 3) := by decide +kernel
theorem dX7_looksAt_50 : decode cX7_looksAt 50 = .ok (.iconst (-1), 1) := by decide +kernel
theorem dX7_looksAt_51 : decode cX7_looksAt 51 = .ok (.if_icmp .eq 23, 3) := by decide +kernel
theorem dX7_looksAt_54 : decode cX7_looksAt 54 = .ok (.aload_n 0, 1) := by decide +kernel
theorem dX7_looksAt_55 : decode cX7_looksAt 55 = .ok (.invokevirtual 122, 3) := by decide +kernel
theorem dX7_looksAt_58 : decode cX7_looksAt 58 = .ok (.invokestatic 145, 3) := by decide +kernel
theorem dX7_looksAt_61 : decode cX7_looksAt 61 = .ok (.aload_n 0, 1) := by decide +kernel
theorem dX7_looksAt_62 : decode cX7_looksAt 62 = .ok (.getfield 19, 3) := by decide +kernel
theorem dX7_looksAt_65 : decode cX7_looksAt 65 = .ok (.iload_n 1, 1) := by decide +kernel
theorem dX7_looksAt_66 : decode cX7_looksAt 66 = .ok (.iaload, 1) := by decide +kernel
theorem dX7_looksAt_67 : decode cX7_looksAt 67 = .ok (.if_icmp .lt 7, 3) := by decide +kernel
theorem dX7_looksAt_70 : decode cX7_looksAt 70 = .ok (.iconst 1, 1) := by decide +kernel
theorem dX7_looksAt_71 : decode cX7_looksAt 71 = .ok (.goto 4, 3) := by decide +kernel
theorem dX7_looksAt_74 : decode cX7_looksAt 74 = .ok (.iconst 0, 1) := by decide +kernel
theorem dX7_looksAt_75 : decode cX7_looksAt 75 = .ok (.istore_n 3, 1) := by decide +kernel
theorem dX7_looksAt_76 : decode cX7_looksAt 76 = .ok (.iload_n 2, 1) := by decide +kernel
theorem dX7_looksAt_77 : decode cX7_looksAt 77 = .ok (.ifCond .ne 24, 3) := by decide +kernel
theorem dX7_looksAt_80 : decode cX7_looksAt 80 = .ok (.aload_n 0, 1) := by decide +kernel
theorem dX7_looksAt_81 : decode cX7_looksAt 81 = .ok (.getfield 34, 3) := by decide +kernel
theorem dX7_looksAt_84 : decode cX7_looksAt 84 = .ok (.iload_n 1, 1) := by decide +kernel
theorem dX7_looksAt_85 : decode cX7_looksAt 85 = .ok (.iaload, 1) := by decide +kernel
theorem dX7_looksAt_86 : decode cX7_looksAt 86 = .ok (.aload_n 0, 1) := by decide +kernel
theorem dX7_looksAt_87 : decode cX7_looksAt 87 = .ok (.getfield 89, 3) := by decide +kernel
theorem dX7_looksAt_90 : decode cX7_looksAt 90 = .ok (.if_icmp .ne 11, 3) := by decide +kernel
theorem dX7_looksAt_93 : decode cX7_looksAt 93 = .ok (.aload_n 0, 1) := by decide +kernel
theorem dX7_looksAt_94 : decode cX7_looksAt 94 = .ok (.iload_n 1, 1) := by decide +kernel
theorem dX7_looksAt_95 : decode cX7_looksAt 95 = .ok (.invokevirtual 148, 3) := by decide +kernel
theorem dX7_looksAt_98 : decode cX7_looksAt 98 = .ok (.goto 47, 3) := by decide +kernel
theorem dX7_looksAt_101 : decode cX7_looksAt 101 = .ok (.iload_n 3, 1) := by decide +kernel
theorem dX7_looksAt_102 : decode cX7_looksAt 102 = .ok (.ifCond .eq 11, 3) := by decide +kernel
theorem dX7_looksAt_105 : decode cX7_looksAt 105 = .ok (.aload_n 0, 1) := by decide +kernel
theorem dX7_looksAt_106 : decode cX7_looksAt 106 = .ok (.iload_n 1, 1) := by decide +kernel
theorem dX7_looksAt_107 : decode cX7_looksAt 107 = .ok (.invokevirtual 152, 3) := by decide +kernel
theorem dX7_looksAt_110 : decode cX7_looksAt 110 = .ok (.goto 35, 3) := by decide +kernel
theorem dX7_looksAt_113 : decode cX7_looksAt 113 = .ok (.aload_n 0, 1) := by decide +kernel
theorem dX7_looksAt_114 : decode cX7_looksAt 114 = .ok (.getfield 89, 3) := by decide +kernel
theorem dX7_looksAt_117 : decode cX7_looksAt 117 = .ok (.aload_n 0, 1) := by decide +kernel
theorem dX7_looksAt_118 : decode cX7_looksAt 118 = .ok (.getfield 34, 3) := by decide +kernel
theorem dX7_looksAt_121 : decode cX7_looksAt 121 = .ok (.iload_n 1, 1) := by decide +kernel
theorem dX7_looksAt_122 : decode cX7_looksAt 122 = .ok (.iaload, 1) := by decide +kernel
theorem dX7_looksAt_123 : decode cX7_looksAt 123 = .ok (.isub, 1) := by decide +kernel
theorem dX7_looksAt_124 : decode cX7_looksAt 124 = .ok (.iconst 3, 1) := by decide +kernel
theorem dX7_looksAt_125 : decode cX7_looksAt 125 = .ok (.if_icmp .lt 20, 3) := by decide +kernel
theorem dX7_looksAt_128 : decode cX7_looksAt 128 = .ok (.aload_n 0, 1) := by decide +kernel
theorem dX7_looksAt_129 : decode cX7_looksAt 129 = .ok (.getfield 46, 3) := by decide +kernel
theorem dX7_looksAt_132 : decode cX7_looksAt 132 = .ok (.iload_n 1, 1) := by decide +kernel
theorem dX7_looksAt_133 : decode cX7_looksAt 133 = .ok (.dup2, 1) := by decide +kernel
theorem dX7_looksAt_134 : decode cX7_looksAt 134 = .ok (.iaload, 1) := by decide +kernel
theorem dX7_looksAt_135 : decode cX7_looksAt 135 = .ok (.iconst 1, 1) := by decide +kernel
theorem dX7_looksAt_136 : decode cX7_looksAt 136 = .ok (.iadd, 1) := by decide +kernel
theorem dX7_looksAt_137 : decode cX7_looksAt 137 = .ok (.iastore, 1) := by decide +kernel
theorem dX7_looksAt_138 : decode cX7_looksAt 138 = .ok (.aload_n 0, 1) := by decide +kernel
theorem dX7_looksAt_139 : decode cX7_looksAt 139 = .ok (.getfield 34, 3) := by decide +kernel
theorem dX7_looksAt_142 : decode cX7_looksAt 142 = .ok (.iload_n 1, 1) := by decide +kernel
theorem dX7_looksAt_143 : decode cX7_looksAt 143 = .ok (.iconst (-1), 1) := by decide +kernel
theorem dX7_looksAt_144 : decode cX7_looksAt 144 = .ok (.iastore, 1) := by decide +kernel
theorem dX7_looksAt_145 : decode cX7_looksAt 145 = .ok (.return_, 1) := by decide +kernel
theorem dX7_passes_0 : decode cX7_passes 0 = .ok (.aload_n 0, 1) := by decide +kernel
theorem dX7_passes_1 : decode cX7_passes 1 = .ok (.dup, 1) := by decide +kernel
theorem dX7_passes_2 : decode cX7_passes 2 = .ok (.getfield 89, 3) := by decide +kernel
theorem dX7_passes_5 : decode cX7_passes 5 = .ok (.iconst 1, 1) := by decide +kernel
theorem dX7_passes_6 : decode cX7_passes 6 = .ok (.iadd, 1) := by decide +kernel
theorem dX7_passes_7 : decode cX7_passes 7 = .ok (.putfield 89, 3) := by decide +kernel
theorem dX7_passes_10 : decode cX7_passes 10 = .ok (.iconst 0, 1) := by decide +kernel
theorem dX7_passes_11 : decode cX7_passes 11 = .ok (.istore_n 1, 1) := by decide +kernel
theorem dX7_passes_12 : decode cX7_passes 12 = .ok (.iload_n 1, 1) := by decide +kernel
theorem dX7_passes_13 : decode cX7_passes 13 = .ok (.aload_n 0, 1) := by decide +kernel
theorem dX7_passes_14 : decode cX7_passes 14 = .ok (.getfield 75, 3) := by decide +kernel
theorem dX7_passes_17 : decode cX7_passes 17 = .ok (.if_icmp .ge 108, 3) := by decide +kernel
theorem dX7_passes_20 : decode cX7_passes 20 = .ok (.aload_n 0, 1) := by decide +kernel
theorem dX7_passes_21 : decode cX7_passes 21 = .ok (.getfield 31, 3) := by decide +kernel
theorem dX7_passes_24 : decode cX7_passes 24 = .ok (.iload_n 1, 1) := by decide +kernel
theorem dX7_passes_25 : decode cX7_passes 25 = .ok (.iaload, 1) := by decide +kernel
theorem dX7_passes_26 : decode cX7_passes 26 = .ok (.iconst 1, 1) := by decide +kernel
theorem dX7_passes_27 : decode cX7_passes 27 = .ok (.if_icmp .eq 13, 3) := by decide +kernel
theorem dX7_passes_30 : decode cX7_passes 30 = .ok (.aload_n 0, 1) := by decide +kernel
theorem dX7_passes_31 : decode cX7_passes 31 = .ok (.getfield 31, 3) := by decide +kernel
theorem dX7_passes_34 : decode cX7_passes 34 = .ok (.iload_n 1, 1) := by decide +kernel
theorem dX7_passes_35 : decode cX7_passes 35 = .ok (.iaload, 1) := by decide +kernel
theorem dX7_passes_36 : decode cX7_passes 36 = .ok (.iconst 3, 1) := by decide +kernel
theorem dX7_passes_37 : decode cX7_passes 37 = .ok (.if_icmp .ne 22, 3) := by decide +kernel
theorem dX7_passes_40 : decode cX7_passes 40 = .ok (.aload_n 0, 1) := by decide +kernel
theorem dX7_passes_41 : decode cX7_passes 41 = .ok (.getfield 89, 3) := by decide +kernel
theorem dX7_passes_44 : decode cX7_passes 44 = .ok (.aload_n 0, 1) := by decide +kernel
theorem dX7_passes_45 : decode cX7_passes 45 = .ok (.getfield 37, 3) := by decide +kernel
theorem dX7_passes_48 : decode cX7_passes 48 = .ok (.iload_n 1, 1) := by decide +kernel
theorem dX7_passes_49 : decode cX7_passes 49 = .ok (.iaload, 1) := by decide +kernel
theorem dX7_passes_50 : decode cX7_passes 50 = .ok (.isub, 1) := by decide +kernel
theorem dX7_passes_51 : decode cX7_passes 51 = .ok (.iconst 2, 1) := by decide +kernel
theorem dX7_passes_52 : decode cX7_passes 52 = .ok (.if_icmp .lt 7, 3) := by decide +kernel
theorem dX7_passes_55 : decode cX7_passes 55 = .ok (.iconst 1, 1) := by decide +kernel
theorem dX7_passes_56 : decode cX7_passes 56 = .ok (.goto 4, 3) := by decide +kernel
theorem dX7_passes_59 : decode cX7_passes 59 = .ok (.iconst 0, 1) := by decide +kernel
theorem dX7_passes_60 : decode cX7_passes 60 = .ok (.istore_n 2, 1) := by decide +kernel
theorem dX7_passes_61 : decode cX7_passes 61 = .ok (.aload_n 0, 1) := by decide +kernel
theorem dX7_passes_62 : decode cX7_passes 62 = .ok (.getfield 31, 3) := by decide +kernel
theorem dX7_passes_65 : decode cX7_passes 65 = .ok (.iload_n 1, 1) := by decide +kernel
theorem dX7_passes_66 : decode cX7_passes 66 = .ok (.dup2, 1) := by decide +kernel
theorem dX7_passes_67 : decode cX7_passes 67 = .ok (.iaload, 1) := by decide +kernel
theorem dX7_passes_68 : decode cX7_passes 68 = .ok (.iload_n 2, 1) := by decide +kernel
theorem dX7_passes_69 : decode cX7_passes 69 = .ok (.ifCond .eq 7, 3) := by decide +kernel
theorem dX7_passes_72 : decode cX7_passes 72 = .ok (.iconst 1, 1) := by decide +kernel
theorem dX7_passes_73 : decode cX7_passes 73 = .ok (.goto 4, 3) := by decide +kernel
theorem dX7_passes_76 : decode cX7_passes 76 = .ok (.iconst 0, 1) := by decide +kernel
theorem dX7_passes_77 : decode cX7_passes 77 = .ok (.iadd, 1) := by decide +kernel
theorem dX7_passes_78 : decode cX7_passes 78 = .ok (.iastore, 1) := by decide +kernel
theorem dX7_passes_79 : decode cX7_passes 79 = .ok (.aload_n 0, 1) := by decide +kernel
theorem dX7_passes_80 : decode cX7_passes 80 = .ok (.getfield 31, 3) := by decide +kernel
theorem dX7_passes_83 : decode cX7_passes 83 = .ok (.iload_n 1, 1) := by decide +kernel
theorem dX7_passes_84 : decode cX7_passes 84 = .ok (.iaload, 1) := by decide +kernel
theorem dX7_passes_85 : decode cX7_passes 85 = .ok (.iconst 2, 1) := by decide +kernel
theorem dX7_passes_86 : decode cX7_passes 86 = .ok (.if_icmp .ne 33, 3) := by decide +kernel
theorem dX7_passes_89 : decode cX7_passes 89 = .ok (.aload_n 0, 1) := by decide +kernel
theorem dX7_passes_90 : decode cX7_passes 90 = .ok (.iload_n 1, 1) := by decide +kernel
theorem dX7_passes_91 : decode cX7_passes 91 = .ok (.iconst 5, 1) := by decide +kernel
theorem dX7_passes_92 : decode cX7_passes 92 = .ok (.aload_n 0, 1) := by decide +kernel
theorem dX7_passes_93 : decode cX7_passes 93 = .ok (.getfield 19, 3) := by decide +kernel
theorem dX7_passes_96 : decode cX7_passes 96 = .ok (.iload_n 1, 1) := by decide +kernel
theorem dX7_passes_97 : decode cX7_passes 97 = .ok (.iaload, 1) := by decide +kernel
theorem dX7_passes_98 : decode cX7_passes 98 = .ok (.imul, 1) := by decide +kernel
theorem dX7_passes_99 : decode cX7_passes 99 = .ok (.invokevirtual 125, 3) := by decide +kernel
theorem dX7_passes_102 : decode cX7_passes 102 = .ok (.aload_n 0, 1) := by decide +kernel
theorem dX7_passes_103 : decode cX7_passes 103 = .ok (.dup, 1) := by decide +kernel
theorem dX7_passes_104 : decode cX7_passes 104 = .ok (.getfield 139, 3) := by decide +kernel
theorem dX7_passes_107 : decode cX7_passes 107 = .ok (.iconst 5, 1) := by decide +kernel
theorem dX7_passes_108 : decode cX7_passes 108 = .ok (.aload_n 0, 1) := by decide +kernel
theorem dX7_passes_109 : decode cX7_passes 109 = .ok (.getfield 19, 3) := by decide +kernel
theorem dX7_passes_112 : decode cX7_passes 112 = .ok (.iload_n 1, 1) := by decide +kernel
theorem dX7_passes_113 : decode cX7_passes 113 = .ok (.iaload, 1) := by decide +kernel
theorem dX7_passes_114 : decode cX7_passes 114 = .ok (.imul, 1) := by decide +kernel
theorem dX7_passes_115 : decode cX7_passes 115 = .ok (.iadd, 1) := by decide +kernel
theorem dX7_passes_116 : decode cX7_passes 116 = .ok (.putfield 139, 3) := by decide +kernel
theorem dX7_passes_119 : decode cX7_passes 119 = .ok (.iinc 1 1, 3) := by decide +kernel
theorem dX7_passes_122 : decode cX7_passes 122 = .ok (.goto (-110), 3) := by decide +kernel
theorem dX7_passes_125 : decode cX7_passes 125 = .ok (.iconst 0, 1) := by decide +kernel
theorem dX7_passes_126 : decode cX7_passes 126 = .ok (.istore_n 1, 1) := by decide +kernel
theorem dX7_passes_127 : decode cX7_passes 127 = .ok (.iconst 0, 1) := by decide +kernel
theorem dX7_passes_128 : decode cX7_passes 128 = .ok (.istore_n 2, 1) := by decide +kernel
theorem dX7_passes_129 : decode cX7_passes 129 = .ok (.iload_n 2, 1) := by decide +kernel
theorem dX7_passes_130 : decode cX7_passes 130 = .ok (.aload_n 0, 1) := by decide +kernel
theorem dX7_passes_131 : decode cX7_passes 131 = .ok (.getfield 75, 3) := by decide +kernel
theorem dX7_passes_134 : decode cX7_passes 134 = .ok (.if_icmp .ge 113, 3) := by decide +kernel
theorem dX7_passes_137 : decode cX7_passes 137 = .ok (.iconst (-1), 1) := by decide +kernel
theorem dX7_passes_138 : decode cX7_passes 138 = .ok (.istore_n 3, 1) := by decide +kernel
theorem dX7_passes_139 : decode cX7_passes 139 = .ok (.iconst 0, 1) := by decide +kernel
theorem dX7_passes_140 : decode cX7_passes 140 = .ok (.istore 4, 2) := by decide +kernel
theorem dX7_passes_142 : decode cX7_passes 142 = .ok (.iload 4, 2) := by decide +kernel
theorem dX7_passes_144 : decode cX7_passes 144 = .ok (.aload_n 0, 1) := by decide +kernel
theorem dX7_passes_145 : decode cX7_passes 145 = .ok (.getfield 75, 3) := by decide +kernel
theorem dX7_passes_148 : decode cX7_passes 148 = .ok (.if_icmp .ge 77, 3) := by decide +kernel
theorem dX7_passes_151 : decode cX7_passes 151 = .ok (.aload_n 0, 1) := by decide +kernel
theorem dX7_passes_152 : decode cX7_passes 152 = .ok (.getfield 34, 3) := by decide +kernel
theorem dX7_passes_155 : decode cX7_passes 155 = .ok (.iload 4, 2) := by decide +kernel
theorem dX7_passes_157 : decode cX7_passes 157 = .ok (.iaload, 1) := by decide +kernel
theorem dX7_passes_158 : decode cX7_passes 158 = .ok (.iconst (-1), 1) := by decide +kernel
theorem dX7_passes_159 : decode cX7_passes 159 = .ok (.if_icmp .eq 30, 3) := by decide +kernel
theorem dX7_passes_162 : decode cX7_passes 162 = .ok (.aload_n 0, 1) := by decide +kernel
theorem dX7_passes_163 : decode cX7_passes 163 = .ok (.getfield 34, 3) := by decide +kernel
theorem dX7_passes_166 : decode cX7_passes 166 = .ok (.iload 4, 2) := by decide +kernel
theorem dX7_passes_168 : decode cX7_passes 168 = .ok (.iaload, 1) := by decide +kernel
theorem dX7_passes_169 : decode cX7_passes 169 = .ok (.aload_n 0, 1) := by decide +kernel
theorem dX7_passes_170 : decode cX7_passes 170 = .ok (.getfield 89, 3) := by decide +kernel
theorem dX7_passes_173 : decode cX7_passes 173 = .ok (.if_icmp .gt 16, 3) := by decide +kernel
theorem dX7_passes_176 : decode cX7_passes 176 = .ok (.iload_n 1, 1) := by decide +kernel
theorem dX7_passes_177 : decode cX7_passes 177 = .ok (.iload 4, 2) := by decide +kernel
theorem dX7_passes_179 : decode cX7_passes 179 = .ok (.ishr, 1) := by decide +kernel
theorem dX7_passes_180 : decode cX7_passes 180 = .ok (.iconst 1, 1) := by decide +kernel
theorem dX7_passes_181 : decode cX7_passes 181 = .ok (.iand, 1) := by decide +kernel
theorem dX7_passes_182 : decode cX7_passes 182 = .ok (.ifCond .ne 7, 3) := by decide +kernel
theorem dX7_passes_185 : decode cX7_passes 185 = .ok (.iconst 1, 1) := by decide +kernel
theorem dX7_passes_186 : decode cX7_passes 186 = .ok (.goto 4, 3) := by decide +kernel
theorem dX7_passes_189 : decode cX7_passes 189 = .ok (.iconst 0, 1) := by decide +kernel
theorem dX7_passes_190 : decode cX7_passes 190 = .ok (.istore 5, 2) := by decide +kernel
theorem dX7_passes_192 : decode cX7_passes 192 = .ok (.iload 5, 2) := by decide +kernel
theorem dX7_passes_194 : decode cX7_passes 194 = .ok (.ifCond .eq 23, 3) := by decide +kernel
theorem dX7_passes_197 : decode cX7_passes 197 = .ok (.iload_n 3, 1) := by decide +kernel
theorem dX7_passes_198 : decode cX7_passes 198 = .ok (.iconst (-1), 1) := by decide +kernel
theorem dX7_passes_199 : decode cX7_passes 199 = .ok (.if_icmp .eq 13, 3) := by decide +kernel
theorem dX7_passes_202 : decode cX7_passes 202 = .ok (.aload_n 0, 1) := by decide +kernel
theorem dX7_passes_203 : decode cX7_passes 203 = .ok (.iload 4, 2) := by decide +kernel
theorem dX7_passes_205 : decode cX7_passes 205 = .ok (.iload_n 3, 1) := by decide +kernel
theorem dX7_passes_206 : decode cX7_passes 206 = .ok (.invokevirtual 110, 3) := by decide +kernel
theorem dX7_passes_209 : decode cX7_passes 209 = .ok (.ifCond .eq 8, 3) := by decide +kernel
theorem dX7_passes_212 : decode cX7_passes 212 = .ok (.iload 4, 2) := by decide +kernel
theorem dX7_passes_214 : decode cX7_passes 214 = .ok (.goto 4, 3) := by decide +kernel
theorem dX7_passes_217 : decode cX7_passes 217 = .ok (.iload_n 3, 1) := by decide +kernel
theorem dX7_passes_218 : decode cX7_passes 218 = .ok (.istore_n 3, 1) := by decide +kernel
theorem dX7_passes_219 : decode cX7_passes 219 = .ok (.iinc 4 1, 3) := by decide +kernel
theorem dX7_passes_222 : decode cX7_passes 222 = .ok (.goto (-80), 3) := by decide +kernel
theorem dX7_passes_225 : decode cX7_passes 225 = .ok (.iload_n 3, 1) := by decide +kernel
theorem dX7_passes_226 : decode cX7_passes 226 = .ok (.iconst (-1), 1) := by decide +kernel
theorem dX7_passes_227 : decode cX7_passes 227 = .ok (.if_icmp .eq 14, 3) := by decide +kernel
theorem dX7_passes_230 : decode cX7_passes 230 = .ok (.iload_n 1, 1) := by decide +kernel
theorem dX7_passes_231 : decode cX7_passes 231 = .ok (.iconst 1, 1) := by decide +kernel
theorem dX7_passes_232 : decode cX7_passes 232 = .ok (.iload_n 3, 1) := by decide +kernel
theorem dX7_passes_233 : decode cX7_passes 233 = .ok (.ishl, 1) := by decide +kernel
theorem dX7_passes_234 : decode cX7_passes 234 = .ok (.ior, 1) := by decide +kernel
theorem dX7_passes_235 : decode cX7_passes 235 = .ok (.istore_n 1, 1) := by decide +kernel
theorem dX7_passes_236 : decode cX7_passes 236 = .ok (.aload_n 0, 1) := by decide +kernel
theorem dX7_passes_237 : decode cX7_passes 237 = .ok (.iload_n 3, 1) := by decide +kernel
theorem dX7_passes_238 : decode cX7_passes 238 = .ok (.invokevirtual 155, 3) := by decide +kernel
theorem dX7_passes_241 : decode cX7_passes 241 = .ok (.iinc 2 1, 3) := by decide +kernel
theorem dX7_passes_244 : decode cX7_passes 244 = .ok (.goto (-115), 3) := by decide +kernel
theorem dX7_passes_247 : decode cX7_passes 247 = .ok (.return_, 1) := by decide +kernel
theorem dX7_pass_0 : decode cX7_pass 0 = .ok (.aload_n 0, 1) := by decide +kernel
theorem dX7_pass_1 : decode cX7_pass 1 = .ok (.iload_n 1, 1) := by decide +kernel
theorem dX7_pass_2 : decode cX7_pass 2 = .ok (.iconst 1, 1) := by decide +kernel
theorem dX7_pass_3 : decode cX7_pass 3 = .ok (.bipush 100, 2) := by decide +kernel
theorem dX7_pass_5 : decode cX7_pass 5 = .ok (.invokestatic 78, 3) := by decide +kernel
theorem dX7_pass_8 : decode cX7_pass 8 = .ok (.ifCond .ne 7, 3) := by decide +kernel
theorem dX7_pass_11 : decode cX7_pass 11 = .ok (.iconst 1, 1) := by decide +kernel
theorem dX7_pass_12 : decode cX7_pass 12 = .ok (.goto 20, 3) := by decide +kernel
theorem dX7_pass_15 : decode cX7_pass 15 = .ok (.aload_n 0, 1) := by decide +kernel
theorem dX7_pass_16 : decode cX7_pass 16 = .ok (.getfield 89, 3) := by decide +kernel
theorem dX7_pass_19 : decode cX7_pass 19 = .ok (.iload_n 1, 1) := by decide +kernel
theorem dX7_pass_20 : decode cX7_pass 20 = .ok (.iadd, 1) := by decide +kernel
theorem dX7_pass_21 : decode cX7_pass 21 = .ok (.sipush 3000, 3) := by decide +kernel
theorem dX7_pass_24 : decode cX7_pass 24 = .ok (.if_icmp .le 7, 3) := by decide +kernel
theorem dX7_pass_27 : decode cX7_pass 27 = .ok (.iconst 2, 1) := by decide +kernel
theorem dX7_pass_28 : decode cX7_pass 28 = .ok (.goto 4, 3) := by decide +kernel
theorem dX7_pass_31 : decode cX7_pass 31 = .ok (.iconst 0, 1) := by decide +kernel
theorem dX7_pass_32 : decode cX7_pass 32 = .ok (.invokevirtual 85, 3) := by decide +kernel
theorem dX7_pass_35 : decode cX7_pass 35 = .ok (.ifCond .ne 5, 3) := by decide +kernel
theorem dX7_pass_38 : decode cX7_pass 38 = .ok (.iconst 0, 1) := by decide +kernel
theorem dX7_pass_39 : decode cX7_pass 39 = .ok (.ireturn, 1) := by decide +kernel
theorem dX7_pass_40 : decode cX7_pass 40 = .ok (.aload_n 0, 1) := by decide +kernel
theorem dX7_pass_41 : decode cX7_pass 41 = .ok (.getfield 82, 3) := by decide +kernel
theorem dX7_pass_44 : decode cX7_pass 44 = .ok (.istore_n 2, 1) := by decide +kernel
theorem dX7_pass_45 : decode cX7_pass 45 = .ok (.iconst 0, 1) := by decide +kernel
theorem dX7_pass_46 : decode cX7_pass 46 = .ok (.istore_n 3, 1) := by decide +kernel
theorem dX7_pass_47 : decode cX7_pass 47 = .ok (.iload_n 3, 1) := by decide +kernel
theorem dX7_pass_48 : decode cX7_pass 48 = .ok (.iload_n 1, 1) := by decide +kernel
theorem dX7_pass_49 : decode cX7_pass 49 = .ok (.if_icmp .ge 13, 3) := by decide +kernel
theorem dX7_pass_52 : decode cX7_pass 52 = .ok (.aload_n 0, 1) := by decide +kernel
theorem dX7_pass_53 : decode cX7_pass 53 = .ok (.invokevirtual 158, 3) := by decide +kernel
theorem dX7_pass_56 : decode cX7_pass 56 = .ok (.iinc 3 1, 3) := by decide +kernel
theorem dX7_pass_59 : decode cX7_pass 59 = .ok (.goto (-12), 3) := by decide +kernel
theorem dX7_pass_62 : decode cX7_pass 62 = .ok (.aload_n 0, 1) := by decide +kernel
theorem dX7_pass_63 : decode cX7_pass 63 = .ok (.getfield 82, 3) := by decide +kernel
theorem dX7_pass_66 : decode cX7_pass 66 = .ok (.iload_n 2, 1) := by decide +kernel
theorem dX7_pass_67 : decode cX7_pass 67 = .ok (.isub, 1) := by decide +kernel
theorem dX7_pass_68 : decode cX7_pass 68 = .ok (.ireturn, 1) := by decide +kernel
theorem dX7_moves_0 : decode cX7_moves 0 = .ok (.aload_n 0, 1) := by decide +kernel
theorem dX7_moves_1 : decode cX7_moves 1 = .ok (.iconst 0, 1) := by decide +kernel
theorem dX7_moves_2 : decode cX7_moves 2 = .ok (.putfield 71, 3) := by decide +kernel
theorem dX7_moves_5 : decode cX7_moves 5 = .ok (.aload_n 0, 1) := by decide +kernel
theorem dX7_moves_6 : decode cX7_moves 6 = .ok (.getfield 82, 3) := by decide +kernel
theorem dX7_moves_9 : decode cX7_moves 9 = .ok (.ireturn, 1) := by decide +kernel
theorem dX7_move_0 : decode cX7_move 0 = .ok (.aload_n 0, 1) := by decide +kernel
theorem dX7_move_1 : decode cX7_move 1 = .ok (.aload_n 0, 1) := by decide +kernel
theorem dX7_move_2 : decode cX7_move 2 = .ok (.iload_n 1, 1) := by decide +kernel
theorem dX7_move_3 : decode cX7_move 3 = .ok (.invokevirtual 161, 3) := by decide +kernel
theorem dX7_move_6 : decode cX7_move 6 = .ok (.ifCond .eq 7, 3) := by decide +kernel
theorem dX7_move_9 : decode cX7_move 9 = .ok (.iconst 0, 1) := by decide +kernel
theorem dX7_move_10 : decode cX7_move 10 = .ok (.goto 4, 3) := by decide +kernel
theorem dX7_move_13 : decode cX7_move 13 = .ok (.iconst 1, 1) := by decide +kernel
theorem dX7_move_14 : decode cX7_move 14 = .ok (.invokevirtual 85, 3) := by decide +kernel
theorem dX7_move_17 : decode cX7_move 17 = .ok (.ifCond .eq 51, 3) := by decide +kernel
theorem dX7_move_20 : decode cX7_move 20 = .ok (.sipush 10000, 3) := by decide +kernel
theorem dX7_move_23 : decode cX7_move 23 = .ok (.aload_n 0, 1) := by decide +kernel
theorem dX7_move_24 : decode cX7_move 24 = .ok (.getfield 55, 3) := by decide +kernel
theorem dX7_move_27 : decode cX7_move 27 = .ok (.iload_n 1, 1) := by decide +kernel
theorem dX7_move_28 : decode cX7_move 28 = .ok (.iaload, 1) := by decide +kernel
theorem dX7_move_29 : decode cX7_move 29 = .ok (.imul, 1) := by decide +kernel
theorem dX7_move_30 : decode cX7_move 30 = .ok (.bipush 100, 2) := by decide +kernel
theorem dX7_move_32 : decode cX7_move 32 = .ok (.aload_n 0, 1) := by decide +kernel
theorem dX7_move_33 : decode cX7_move 33 = .ok (.getfield 58, 3) := by decide +kernel
theorem dX7_move_36 : decode cX7_move 36 = .ok (.iload_n 1, 1) := by decide +kernel
theorem dX7_move_37 : decode cX7_move 37 = .ok (.iaload, 1) := by decide +kernel
theorem dX7_move_38 : decode cX7_move 38 = .ok (.imul, 1) := by decide +kernel
theorem dX7_move_39 : decode cX7_move 39 = .ok (.iadd, 1) := by decide +kernel
theorem dX7_move_40 : decode cX7_move 40 = .ok (.bipush 10, 2) := by decide +kernel
theorem dX7_move_42 : decode cX7_move 42 = .ok (.aload_n 0, 1) := by decide +kernel
theorem dX7_move_43 : decode cX7_move 43 = .ok (.getfield 61, 3) := by decide +kernel
theorem dX7_move_46 : decode cX7_move 46 = .ok (.iload_n 1, 1) := by decide +kernel
theorem dX7_move_47 : decode cX7_move 47 = .ok (.iaload, 1) := by decide +kernel
theorem dX7_move_48 : decode cX7_move 48 = .ok (.imul, 1) := by decide +kernel
theorem dX7_move_49 : decode cX7_move 49 = .ok (.iadd, 1) := by decide +kernel
theorem dX7_move_50 : decode cX7_move 50 = .ok (.aload_n 0, 1) := by decide +kernel
theorem dX7_move_51 : decode cX7_move 51 = .ok (.getfield 67, 3) := by decide +kernel
theorem dX7_move_54 : decode cX7_move 54 = .ok (.iload_n 1, 1) := by decide +kernel
theorem dX7_move_55 : decode cX7_move 55 = .ok (.baload, 1) := by decide +kernel
theorem dX7_move_56 : decode cX7_move 56 = .ok (.ifCond .eq 7, 3) := by decide +kernel
theorem dX7_move_59 : decode cX7_move 59 = .ok (.iconst 1, 1) := by decide +kernel
theorem dX7_move_60 : decode cX7_move 60 = .ok (.goto 4, 3) := by decide +kernel
theorem dX7_move_63 : decode cX7_move 63 = .ok (.iconst 0, 1) := by decide +kernel
theorem dX7_move_64 : decode cX7_move 64 = .ok (.iadd, 1) := by decide +kernel
theorem dX7_move_65 : decode cX7_move 65 = .ok (.goto 4, 3) := by decide +kernel
theorem dX7_move_68 : decode cX7_move 68 = .ok (.iconst 0, 1) := by decide +kernel
theorem dX7_move_69 : decode cX7_move 69 = .ok (.ireturn, 1) := by decide +kernel
theorem dX7_isSound_0 : decode cX7_isSound 0 = .ok (.aload_n 0, 1) := by decide +kernel
theorem dX7_isSound_1 : decode cX7_isSound 1 = .ok (.aload_n 0, 1) := by decide +kernel
theorem dX7_isSound_2 : decode cX7_isSound 2 = .ok (.iload_n 1, 1) := by decide +kernel
theorem dX7_isSound_3 : decode cX7_isSound 3 = .ok (.invokevirtual 161, 3) := by decide +kernel
theorem dX7_isSound_6 : decode cX7_isSound 6 = .ok (.ifCond .eq 7, 3) := by decide +kernel
theorem dX7_isSound_9 : decode cX7_isSound 9 = .ok (.iconst 0, 1) := by decide +kernel
theorem dX7_isSound_10 : decode cX7_isSound 10 = .ok (.goto 4, 3) := by decide +kernel
theorem dX7_isSound_13 : decode cX7_isSound 13 = .ok (.iconst 1, 1) := by decide +kernel
theorem dX7_isSound_14 : decode cX7_isSound 14 = .ok (.invokevirtual 85, 3) := by decide +kernel
theorem dX7_isSound_17 : decode cX7_isSound 17 = .ok (.ireturn, 1) := by decide +kernel
theorem dX7_paid_0 : decode cX7_paid 0 = .ok (.aload_n 0, 1) := by decide +kernel
theorem dX7_paid_1 : decode cX7_paid 1 = .ok (.aload_n 0, 1) := by decide +kernel
theorem dX7_paid_2 : decode cX7_paid 2 = .ok (.iload_n 1, 1) := by decide +kernel
theorem dX7_paid_3 : decode cX7_paid 3 = .ok (.invokevirtual 99, 3) := by decide +kernel
theorem dX7_paid_6 : decode cX7_paid 6 = .ok (.ifCond .eq 7, 3) := by decide +kernel
theorem dX7_paid_9 : decode cX7_paid 9 = .ok (.iconst 0, 1) := by decide +kernel
theorem dX7_paid_10 : decode cX7_paid 10 = .ok (.goto 4, 3) := by decide +kernel
theorem dX7_paid_13 : decode cX7_paid 13 = .ok (.iconst 1, 1) := by decide +kernel
theorem dX7_paid_14 : decode cX7_paid 14 = .ok (.invokevirtual 85, 3) := by decide +kernel
theorem dX7_paid_17 : decode cX7_paid 17 = .ok (.ifCond .eq 12, 3) := by decide +kernel
theorem dX7_paid_20 : decode cX7_paid 20 = .ok (.aload_n 0, 1) := by decide +kernel
theorem dX7_paid_21 : decode cX7_paid 21 = .ok (.getfield 40, 3) := by decide +kernel
theorem dX7_paid_24 : decode cX7_paid 24 = .ok (.iload_n 1, 1) := by decide +kernel
theorem dX7_paid_25 : decode cX7_paid 25 = .ok (.iaload, 1) := by decide +kernel
theorem dX7_paid_26 : decode cX7_paid 26 = .ok (.goto 4, 3) := by decide +kernel
theorem dX7_paid_29 : decode cX7_paid 29 = .ok (.iconst 0, 1) := by decide +kernel
theorem dX7_paid_30 : decode cX7_paid 30 = .ok (.ireturn, 1) := by decide +kernel
theorem dX7_earned_0 : decode cX7_earned 0 = .ok (.aload_n 0, 1) := by decide +kernel
theorem dX7_earned_1 : decode cX7_earned 1 = .ok (.iload_n 1, 1) := by decide +kernel
theorem dX7_earned_2 : decode cX7_earned 2 = .ok (.invokestatic 116, 3) := by decide +kernel
theorem dX7_earned_5 : decode cX7_earned 5 = .ok (.ifCond .eq 7, 3) := by decide +kernel
theorem dX7_earned_8 : decode cX7_earned 8 = .ok (.iconst 0, 1) := by decide +kernel
theorem dX7_earned_9 : decode cX7_earned 9 = .ok (.goto 4, 3) := by decide +kernel
theorem dX7_earned_12 : decode cX7_earned 12 = .ok (.iconst 1, 1) := by decide +kernel
theorem dX7_earned_13 : decode cX7_earned 13 = .ok (.invokevirtual 85, 3) := by decide +kernel
theorem dX7_earned_16 : decode cX7_earned 16 = .ok (.ifCond .eq 12, 3) := by decide +kernel
theorem dX7_earned_19 : decode cX7_earned 19 = .ok (.aload_n 0, 1) := by decide +kernel
theorem dX7_earned_20 : decode cX7_earned 20 = .ok (.getfield 52, 3) := by decide +kernel
theorem dX7_earned_23 : decode cX7_earned 23 = .ok (.iload_n 1, 1) := by decide +kernel
theorem dX7_earned_24 : decode cX7_earned 24 = .ok (.iaload, 1) := by decide +kernel
theorem dX7_earned_25 : decode cX7_earned 25 = .ok (.goto 4, 3) := by decide +kernel
theorem dX7_earned_28 : decode cX7_earned 28 = .ok (.iconst 0, 1) := by decide +kernel
theorem dX7_earned_29 : decode cX7_earned 29 = .ok (.ireturn, 1) := by decide +kernel
theorem dX7_tugPay_0 : decode cX7_tugPay 0 = .ok (.aload_n 0, 1) := by decide +kernel
theorem dX7_tugPay_1 : decode cX7_tugPay 1 = .ok (.iconst 0, 1) := by decide +kernel
theorem dX7_tugPay_2 : decode cX7_tugPay 2 = .ok (.putfield 71, 3) := by decide +kernel
theorem dX7_tugPay_5 : decode cX7_tugPay 5 = .ok (.aload_n 0, 1) := by decide +kernel
theorem dX7_tugPay_6 : decode cX7_tugPay 6 = .ok (.getfield 136, 3) := by decide +kernel
theorem dX7_tugPay_9 : decode cX7_tugPay 9 = .ok (.ireturn, 1) := by decide +kernel
theorem dX7_port_0 : decode cX7_port 0 = .ok (.aload_n 0, 1) := by decide +kernel
theorem dX7_port_1 : decode cX7_port 1 = .ok (.iconst 0, 1) := by decide +kernel
theorem dX7_port_2 : decode cX7_port 2 = .ok (.putfield 71, 3) := by decide +kernel
theorem dX7_port_5 : decode cX7_port 5 = .ok (.aload_n 0, 1) := by decide +kernel
theorem dX7_port_6 : decode cX7_port 6 = .ok (.getfield 139, 3) := by decide +kernel
theorem dX7_port_9 : decode cX7_port 9 = .ok (.ireturn, 1) := by decide +kernel
theorem dX7_lost_0 : decode cX7_lost 0 = .ok (.aload_n 0, 1) := by decide +kernel
theorem dX7_lost_1 : decode cX7_lost 1 = .ok (.aload_n 0, 1) := by decide +kernel
theorem dX7_lost_2 : decode cX7_lost 2 = .ok (.iload_n 1, 1) := by decide +kernel
theorem dX7_lost_3 : decode cX7_lost 3 = .ok (.invokevirtual 99, 3) := by decide +kernel
theorem dX7_lost_6 : decode cX7_lost 6 = .ok (.ifCond .eq 7, 3) := by decide +kernel
theorem dX7_lost_9 : decode cX7_lost 9 = .ok (.iconst 0, 1) := by decide +kernel
theorem dX7_lost_10 : decode cX7_lost 10 = .ok (.goto 4, 3) := by decide +kernel
theorem dX7_lost_13 : decode cX7_lost 13 = .ok (.iconst 1, 1) := by decide +kernel
theorem dX7_lost_14 : decode cX7_lost 14 = .ok (.invokevirtual 85, 3) := by decide +kernel
theorem dX7_lost_17 : decode cX7_lost 17 = .ok (.ifCond .eq 12, 3) := by decide +kernel
theorem dX7_lost_20 : decode cX7_lost 20 = .ok (.aload_n 0, 1) := by decide +kernel
theorem dX7_lost_21 : decode cX7_lost 21 = .ok (.getfield 43, 3) := by decide +kernel
theorem dX7_lost_24 : decode cX7_lost 24 = .ok (.iload_n 1, 1) := by decide +kernel
theorem dX7_lost_25 : decode cX7_lost 25 = .ok (.iaload, 1) := by decide +kernel
theorem dX7_lost_26 : decode cX7_lost 26 = .ok (.goto 4, 3) := by decide +kernel
theorem dX7_lost_29 : decode cX7_lost 29 = .ok (.iconst 0, 1) := by decide +kernel
theorem dX7_lost_30 : decode cX7_lost 30 = .ok (.ireturn, 1) := by decide +kernel
theorem dX7_claims_0 : decode cX7_claims 0 = .ok (.aload_n 0, 1) := by decide +kernel
theorem dX7_claims_1 : decode cX7_claims 1 = .ok (.aload_n 0, 1) := by decide +kernel
theorem dX7_claims_2 : decode cX7_claims 2 = .ok (.iload_n 1, 1) := by decide +kernel
theorem dX7_claims_3 : decode cX7_claims 3 = .ok (.invokevirtual 99, 3) := by decide +kernel
theorem dX7_claims_6 : decode cX7_claims 6 = .ok (.ifCond .eq 7, 3) := by decide +kernel
theorem dX7_claims_9 : decode cX7_claims 9 = .ok (.iconst 0, 1) := by decide +kernel
theorem dX7_claims_10 : decode cX7_claims 10 = .ok (.goto 4, 3) := by decide +kernel
theorem dX7_claims_13 : decode cX7_claims 13 = .ok (.iconst 1, 1) := by decide +kernel
theorem dX7_claims_14 : decode cX7_claims 14 = .ok (.invokevirtual 85, 3) := by decide +kernel
theorem dX7_claims_17 : decode cX7_claims 17 = .ok (.ifCond .eq 12, 3) := by decide +kernel
theorem dX7_claims_20 : decode cX7_claims 20 = .ok (.aload_n 0, 1) := by decide +kernel
theorem dX7_claims_21 : decode cX7_claims 21 = .ok (.getfield 46, 3) := by decide +kernel
theorem dX7_claims_24 : decode cX7_claims 24 = .ok (.iload_n 1, 1) := by decide +kernel
theorem dX7_claims_25 : decode cX7_claims 25 = .ok (.iaload, 1) := by decide +kernel
theorem dX7_claims_26 : decode cX7_claims 26 = .ok (.goto 4, 3) := by decide +kernel
theorem dX7_claims_29 : decode cX7_claims 29 = .ok (.iconst 0, 1) := by decide +kernel
theorem dX7_claims_30 : decode cX7_claims 30 = .ok (.ireturn, 1) := by decide +kernel
theorem dX7_payClaim_0 : decode cX7_payClaim 0 = .ok (.aload_n 0, 1) := by decide +kernel
theorem dX7_payClaim_1 : decode cX7_payClaim 1 = .ok (.iload_n 1, 1) := by decide +kernel
theorem dX7_payClaim_2 : decode cX7_payClaim 2 = .ok (.invokevirtual 99, 3) := by decide +kernel
theorem dX7_payClaim_5 : decode cX7_payClaim 5 = .ok (.istore_n 2, 1) := by decide +kernel
theorem dX7_payClaim_6 : decode cX7_payClaim 6 = .ok (.aload_n 0, 1) := by decide +kernel
theorem dX7_payClaim_7 : decode cX7_payClaim 7 = .ok (.iload_n 2, 1) := by decide +kernel
theorem dX7_payClaim_8 : decode cX7_payClaim 8 = .ok (.ifCond .ne 7, 3) := by decide +kernel
theorem dX7_payClaim_11 : decode cX7_payClaim 11 = .ok (.iconst 1, 1) := by decide +kernel
theorem dX7_payClaim_12 : decode cX7_payClaim 12 = .ok (.goto 17, 3) := by decide +kernel
theorem dX7_payClaim_15 : decode cX7_payClaim 15 = .ok (.aload_n 0, 1) := by decide +kernel
theorem dX7_payClaim_16 : decode cX7_payClaim 16 = .ok (.getfield 46, 3) := by decide +kernel
theorem dX7_payClaim_19 : decode cX7_payClaim 19 = .ok (.iload_n 1, 1) := by decide +kernel
theorem dX7_payClaim_20 : decode cX7_payClaim 20 = .ok (.iaload, 1) := by decide +kernel
theorem dX7_payClaim_21 : decode cX7_payClaim 21 = .ok (.ifCond .ne 7, 3) := by decide +kernel
theorem dX7_payClaim_24 : decode cX7_payClaim 24 = .ok (.iconst 2, 1) := by decide +kernel
theorem dX7_payClaim_25 : decode cX7_payClaim 25 = .ok (.goto 4, 3) := by decide +kernel
theorem dX7_payClaim_28 : decode cX7_payClaim 28 = .ok (.iconst 0, 1) := by decide +kernel
theorem dX7_payClaim_29 : decode cX7_payClaim 29 = .ok (.invokevirtual 85, 3) := by decide +kernel
theorem dX7_payClaim_32 : decode cX7_payClaim 32 = .ok (.ifCond .ne 5, 3) := by decide +kernel
theorem dX7_payClaim_35 : decode cX7_payClaim 35 = .ok (.iconst 0, 1) := by decide +kernel
theorem dX7_payClaim_36 : decode cX7_payClaim 36 = .ok (.ireturn, 1) := by decide +kernel
theorem dX7_payClaim_37 : decode cX7_payClaim 37 = .ok (.aload_n 0, 1) := by decide +kernel
theorem dX7_payClaim_38 : decode cX7_payClaim 38 = .ok (.getfield 46, 3) := by decide +kernel
theorem dX7_payClaim_41 : decode cX7_payClaim 41 = .ok (.iload_n 1, 1) := by decide +kernel
theorem dX7_payClaim_42 : decode cX7_payClaim 42 = .ok (.dup2, 1) := by decide +kernel
theorem dX7_payClaim_43 : decode cX7_payClaim 43 = .ok (.iaload, 1) := by decide +kernel
theorem dX7_payClaim_44 : decode cX7_payClaim 44 = .ok (.iconst 1, 1) := by decide +kernel
theorem dX7_payClaim_45 : decode cX7_payClaim 45 = .ok (.isub, 1) := by decide +kernel
theorem dX7_payClaim_46 : decode cX7_payClaim 46 = .ok (.iastore, 1) := by decide +kernel
theorem dX7_payClaim_47 : decode cX7_payClaim 47 = .ok (.aload_n 0, 1) := by decide +kernel
theorem dX7_payClaim_48 : decode cX7_payClaim 48 = .ok (.getfield 40, 3) := by decide +kernel
theorem dX7_payClaim_51 : decode cX7_payClaim 51 = .ok (.iload_n 1, 1) := by decide +kernel
theorem dX7_payClaim_52 : decode cX7_payClaim 52 = .ok (.dup2, 1) := by decide +kernel
theorem dX7_payClaim_53 : decode cX7_payClaim 53 = .ok (.iaload, 1) := by decide +kernel
theorem dX7_payClaim_54 : decode cX7_payClaim 54 = .ok (.bipush 80, 2) := by decide +kernel
theorem dX7_payClaim_56 : decode cX7_payClaim 56 = .ok (.aload_n 0, 1) := by decide +kernel
theorem dX7_payClaim_57 : decode cX7_payClaim 57 = .ok (.getfield 19, 3) := by decide +kernel
theorem dX7_payClaim_60 : decode cX7_payClaim 60 = .ok (.iload_n 1, 1) := by decide +kernel
theorem dX7_payClaim_61 : decode cX7_payClaim 61 = .ok (.iaload, 1) := by decide +kernel
theorem dX7_payClaim_62 : decode cX7_payClaim 62 = .ok (.imul, 1) := by decide +kernel
theorem dX7_payClaim_63 : decode cX7_payClaim 63 = .ok (.isub, 1) := by decide +kernel
theorem dX7_payClaim_64 : decode cX7_payClaim 64 = .ok (.iastore, 1) := by decide +kernel
theorem dX7_payClaim_65 : decode cX7_payClaim 65 = .ok (.aload_n 0, 1) := by decide +kernel
theorem dX7_payClaim_66 : decode cX7_payClaim 66 = .ok (.dup, 1) := by decide +kernel
theorem dX7_payClaim_67 : decode cX7_payClaim 67 = .ok (.getfield 139, 3) := by decide +kernel
theorem dX7_payClaim_70 : decode cX7_payClaim 70 = .ok (.bipush 80, 2) := by decide +kernel
theorem dX7_payClaim_72 : decode cX7_payClaim 72 = .ok (.aload_n 0, 1) := by decide +kernel
theorem dX7_payClaim_73 : decode cX7_payClaim 73 = .ok (.getfield 19, 3) := by decide +kernel
theorem dX7_payClaim_76 : decode cX7_payClaim 76 = .ok (.iload_n 1, 1) := by decide +kernel
theorem dX7_payClaim_77 : decode cX7_payClaim 77 = .ok (.iaload, 1) := by decide +kernel
theorem dX7_payClaim_78 : decode cX7_payClaim 78 = .ok (.imul, 1) := by decide +kernel
theorem dX7_payClaim_79 : decode cX7_payClaim 79 = .ok (.isub, 1) := by decide +kernel
theorem dX7_payClaim_80 : decode cX7_payClaim 80 = .ok (.putfield 139, 3) := by decide +kernel
theorem dX7_payClaim_83 : decode cX7_payClaim 83 = .ok (.bipush 80, 2) := by decide +kernel
theorem dX7_payClaim_85 : decode cX7_payClaim 85 = .ok (.aload_n 0, 1) := by decide +kernel
theorem dX7_payClaim_86 : decode cX7_payClaim 86 = .ok (.getfield 19, 3) := by decide +kernel
theorem dX7_payClaim_89 : decode cX7_payClaim 89 = .ok (.iload_n 1, 1) := by decide +kernel
theorem dX7_payClaim_90 : decode cX7_payClaim 90 = .ok (.iaload, 1) := by decide +kernel
theorem dX7_payClaim_91 : decode cX7_payClaim 91 = .ok (.imul, 1) := by decide +kernel
theorem dX7_payClaim_92 : decode cX7_payClaim 92 = .ok (.ireturn, 1) := by decide +kernel
