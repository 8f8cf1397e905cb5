/-! the words of the tables that calls and fields need, by their places -/
theorem tbP {w : Cond} (h : w ∈ k2_sels lw_privs) : w ∈ lw_tbl := List.mem_append_left _ h
theorem tb1 {w : Cond} (h : w ∈ tables_1_1) : w ∈ lw_tbl := List.mem_append_right _ (List.mem_append_left _ h)
theorem tb2 {w : Cond} (h : w ∈ tables_1_2) : w ∈ lw_tbl := List.mem_append_right _ (List.mem_append_right _ (List.mem_append_left _ h))
theorem tb3 {w : Cond} (h : w ∈ tables_1_3) : w ∈ lw_tbl := List.mem_append_right _ (List.mem_append_right _ (List.mem_append_right _ (List.mem_append_left _ h)))
theorem tb4 {w : Cond} (h : w ∈ tables_1_4) : w ∈ lw_tbl := List.mem_append_right _ (List.mem_append_right _ (List.mem_append_right _ (List.mem_append_right _ h)))
theorem wc_L_24 : Cond.classLink RL 24 "HarborTides" ∈ TB := TB_in (tb1 (List.mem_of_getElem? (i := 23) rfl)) rfl
theorem wm_L_130 : Cond.methodLink RL 130 yX6_init ∈ TB := TB_in (tb1 (List.mem_of_getElem? (i := 25) rfl)) rfl
theorem wc_X6_7 : Cond.classLink RX6 7 "HarborTides$Water" ∈ TB := TB_in (tb1 (List.mem_of_getElem? (i := 31) rfl)) rfl
theorem wm_X6_9 : Cond.methodLink RX6 9 yX5_init ∈ TB := TB_in (tb1 (List.mem_of_getElem? (i := 33) rfl)) rfl
theorem wm_X5_21 : Cond.methodLink RX5 21 yJ7_fill_53178 ∈ TB := TB_in (tb1 (List.mem_of_getElem? (i := 37) rfl)) rfl
theorem wf_X5_9 : Cond.fieldLink RX5 9 "HarborTides$Water" "table" "[I" ∈ TB := TB_in (tb1 (List.mem_of_getElem? (i := 40) rfl)) rfl
theorem wf_X6_73 : Cond.fieldLink RX6 73 "HarborTides$Water" "table" "[I" ∈ TB := TB_in (tb1 (List.mem_of_getElem? (i := 41) rfl)) rfl
theorem wf_X5_15 : Cond.fieldLink RX5 15 "HarborTides$Water" "surges" "[I" ∈ TB := TB_in (tb1 (List.mem_of_getElem? (i := 42) rfl)) rfl
theorem wf_X6_77 : Cond.fieldLink RX6 77 "HarborTides$Water" "surges" "[I" ∈ TB := TB_in (tb1 (List.mem_of_getElem? (i := 43) rfl)) rfl
theorem wf_X5_18 : Cond.fieldLink RX5 18 "HarborTides$Water" "berths" "[I" ∈ TB := TB_in (tb1 (List.mem_of_getElem? (i := 44) rfl)) rfl
theorem wf_X6_93 : Cond.fieldLink RX6 93 "HarborTides$Water" "berths" "[I" ∈ TB := TB_in (tb1 (List.mem_of_getElem? (i := 45) rfl)) rfl
theorem wc_X6_16 : Cond.classLink RX6 16 "HarborTides$Rota" ∈ TB := TB_in (tb1 (List.mem_of_getElem? (i := 54) rfl)) rfl
theorem wm_X6_18 : Cond.methodLink RX6 18 yX3_init ∈ TB := TB_in (tb1 (List.mem_of_getElem? (i := 56) rfl)) rfl
theorem wf_X3_9 : Cond.fieldLink RX3 9 "HarborTides$Rota" "row" "[I" ∈ TB := TB_in (tb1 (List.mem_of_getElem? (i := 60) rfl)) rfl
theorem wf_X6_169 : Cond.fieldLink RX6 169 "HarborTides$Rota" "row" "[I" ∈ TB := TB_in (tb1 (List.mem_of_getElem? (i := 61) rfl)) rfl
theorem wf_X3_15 : Cond.fieldLink RX3 15 "HarborTides$Rota" "earnings" "[I" ∈ TB := TB_in (tb1 (List.mem_of_getElem? (i := 62) rfl)) rfl
theorem wf_X6_214 : Cond.fieldLink RX6 214 "HarborTides$Rota" "earnings" "[I" ∈ TB := TB_in (tb1 (List.mem_of_getElem? (i := 63) rfl)) rfl
theorem wc_X6_23 : Cond.classLink RX6 23 "HarborTides$Log" ∈ TB := TB_in (tb1 (List.mem_of_getElem? (i := 69) rfl)) rfl
theorem wc_X0_9 : Cond.classLink RX0 9 "java/util/ArrayList" ∈ TB := TB_in (tb1 (List.mem_of_getElem? (i := 75) rfl)) rfl
theorem wm_X0_11 : Cond.methodLink RX0 11 yJx4a65c_init_da8c8 ∈ TB := TB_in (tb1 (List.mem_of_getElem? (i := 77) rfl)) rfl
theorem wm_Jx4a65c_1 : Cond.methodLink RJx4a65c 1 yJxc12de_init_da8c8 ∈ TB := TB_in (tb1 (List.mem_of_getElem? (i := 80) rfl)) rfl
theorem wm_Jxc12de_1 : Cond.methodLink RJxc12de 1 yJxa1e45_init_da8c8 ∈ TB := TB_in (tb1 (List.mem_of_getElem? (i := 83) rfl)) rfl
theorem wf_Jx4a65c_39 : Cond.fieldLink RJx4a65c 39 "java/util/ArrayList" "DEFAULTCAPACITY_EMPTY_ELEMENTDATA" "[Ljava/lang/Object;" ∈ TB := TB_in (tb1 (List.mem_of_getElem? (i := 87) rfl)) rfl
theorem wf_Jx4a65c_9 : Cond.fieldLink RJx4a65c 9 "java/util/ArrayList" "elementData" "[Ljava/lang/Object;" ∈ TB := TB_in (tb1 (List.mem_of_getElem? (i := 89) rfl)) rfl
theorem wf_Jx4a65c_48 : Cond.fieldLink RJx4a65c 48 "java/util/ArrayList" "size" "I" ∈ TB := TB_in (tb1 (List.mem_of_getElem? (i := 90) rfl)) rfl
theorem wf_Jxc12de_7 : Cond.fieldLink RJxc12de 7 "java/util/AbstractList" "modCount" "I" ∈ TB := TB_in (tb1 (List.mem_of_getElem? (i := 91) rfl)) rfl
theorem wf_Jx4a65c_63 : Cond.fieldLink RJx4a65c 63 "java/util/ArrayList" "modCount" "I" ∈ TB := TB_in (tb1 (List.mem_of_getElem? (i := 92) rfl)) rfl
theorem wf_X0_12 : Cond.fieldLink RX0 12 "HarborTides$Log" "begun" "Ljava/util/ArrayList;" ∈ TB := TB_in (tb1 (List.mem_of_getElem? (i := 101) rfl)) rfl
theorem wc_X6_30 : Cond.classLink RX6 30 "java/util/ArrayList" ∈ TB := TB_in (tb1 (List.mem_of_getElem? (i := 105) rfl)) rfl
theorem wm_X6_32 : Cond.methodLink RX6 32 yJx4a65c_init_da8c8 ∈ TB := TB_in (tb1 (List.mem_of_getElem? (i := 106) rfl)) rfl
theorem wc_X6_37 : Cond.classLink RX6 37 "HarborTides$OrderQueue" ∈ TB := TB_in (tb1 (List.mem_of_getElem? (i := 107) rfl)) rfl
theorem wc_X2_9 : Cond.classLink RX2 9 "java/util/ArrayList" ∈ TB := TB_in (tb1 (List.mem_of_getElem? (i := 113) rfl)) rfl
theorem wm_X2_11 : Cond.methodLink RX2 11 yJx4a65c_init_da8c8 ∈ TB := TB_in (tb1 (List.mem_of_getElem? (i := 114) rfl)) rfl
theorem wf_X2_12 : Cond.fieldLink RX2 12 "HarborTides$OrderQueue" "row" "Ljava/util/ArrayList;" ∈ TB := TB_in (tb1 (List.mem_of_getElem? (i := 115) rfl)) rfl
theorem wf_X6_10 : Cond.fieldLink RX6 10 "HarborTides" "water" "LHarborTides$Water;" ∈ TB := TB_in (tb1 (List.mem_of_getElem? (i := 119) rfl)) rfl
theorem wf_X6_19 : Cond.fieldLink RX6 19 "HarborTides" "pilots" "LHarborTides$Rota;" ∈ TB := TB_in (tb1 (List.mem_of_getElem? (i := 120) rfl)) rfl
theorem wf_X6_26 : Cond.fieldLink RX6 26 "HarborTides" "log" "LHarborTides$Log;" ∈ TB := TB_in (tb1 (List.mem_of_getElem? (i := 121) rfl)) rfl
theorem wf_X6_33 : Cond.fieldLink RX6 33 "HarborTides" "ships" "Ljava/util/ArrayList;" ∈ TB := TB_in (tb1 (List.mem_of_getElem? (i := 122) rfl)) rfl
theorem wf_X6_40 : Cond.fieldLink RX6 40 "HarborTides" "orders" "LHarborTides$OrderQueue;" ∈ TB := TB_in (tb1 (List.mem_of_getElem? (i := 123) rfl)) rfl
theorem wf_X6_44 : Cond.fieldLink RX6 44 "HarborTides" "now" "I" ∈ TB := TB_in (tb1 (List.mem_of_getElem? (i := 124) rfl)) rfl
theorem wf_X6_48 : Cond.fieldLink RX6 48 "HarborTides" "tugSum" "I" ∈ TB := TB_in (tb1 (List.mem_of_getElem? (i := 125) rfl)) rfl
theorem wf_X6_51 : Cond.fieldLink RX6 51 "HarborTides" "portSum" "I" ∈ TB := TB_in (tb1 (List.mem_of_getElem? (i := 126) rfl)) rfl
theorem wm_L_23 : Cond.methodLink RL 23 yX6_depth ∈ TB := TB_in (tb1 (List.mem_of_getElem? (i := 144) rfl)) rfl
theorem wm_X6_58 : Cond.methodLink RX6 58 yX6_checkRange ∈ TB := TB_in (tb1 (List.mem_of_getElem? (i := 148) rfl)) rfl
theorem wc_X6_160 : Cond.classLink RX6 160 "java/lang/IllegalArgumentException" ∈ TB := TB_in (tb1 (List.mem_of_getElem? (i := 151) rfl)) rfl
theorem wm_X6_83 : Cond.methodLink RX6 83 yX5_depthAt ∈ TB := TB_in (tb1 (List.mem_of_getElem? (i := 219) rfl)) rfl
theorem wm_L_108 : Cond.methodLink RL 108 yX6_isReady ∈ TB := TB_in (tb1 (List.mem_of_getElem? (i := 223) rfl)) rfl
theorem wm_X6_54 : Cond.methodLink RX6 54 yX6_checkPlace ∈ TB := TB_in (tb1 (List.mem_of_getElem? (i := 227) rfl)) rfl
theorem wc_X6_231 : Cond.classLink RX6 231 "java/lang/IndexOutOfBoundsException" ∈ TB := TB_in (tb1 (List.mem_of_getElem? (i := 230) rfl)) rfl
theorem wm_X6_62 : Cond.methodLink RX6 62 yX0_count ∈ TB := TB_in (tb2 (List.mem_of_getElem? (i := 6) rfl)) rfl
theorem wm_X0_18 : Cond.methodLink RX0 18 yJx4a65c_size_8abf5 ∈ TB := TB_in (tb2 (List.mem_of_getElem? (i := 10) rfl)) rfl
theorem wm_X6_172 : Cond.methodLink RX6 172 yX0_pilotIsReady ∈ TB := TB_in (tb2 (List.mem_of_getElem? (i := 14) rfl)) rfl
theorem wm_X0_42 : Cond.methodLink RX0 42 yJ9_min_7cf53 ∈ TB := TB_in (tb2 (List.mem_of_getElem? (i := 18) rfl)) rfl
theorem wm_X0_22 : Cond.methodLink RX0 22 yJx4a65c_get_915e3 ∈ TB := TB_in (tb2 (List.mem_of_getElem? (i := 21) rfl)) rfl
theorem wm_Jx4a65c_118 : Cond.methodLink RJx4a65c 118 yJ15_checkIndex_7cf53 ∈ TB := TB_in (tb2 (List.mem_of_getElem? (i := 25) rfl)) rfl
theorem wm_J15_105 : Cond.methodLink RJ15 105 yJ3_checkIndex_8e157 ∈ TB := TB_in (tb2 (List.mem_of_getElem? (i := 28) rfl)) rfl
theorem wm_Jx4a65c_123 : Cond.methodLink RJx4a65c 123 yJx4a65c_elementData_915e3 ∈ TB := TB_in (tb2 (List.mem_of_getElem? (i := 31) rfl)) rfl
theorem wc_X0_26 : Cond.classLink RX0 26 "HarborTides$Move" ∈ TB := TB_in (tb2 (List.mem_of_getElem? (i := 35) rfl)) rfl
theorem wm_L_29 : Cond.methodLink RL 29 yX6_moves ∈ TB := TB_in (tb2 (List.mem_of_getElem? (i := 36) rfl)) rfl
theorem wm_L_118 : Cond.methodLink RL 118 yX6_port ∈ TB := TB_in (tb2 (List.mem_of_getElem? (i := 40) rfl)) rfl
theorem wm_L_131 : Cond.methodLink RL 131 yL_draw ∈ TB := TB_in (tb2 (List.mem_of_getElem? (i := 44) rfl)) rfl
theorem wm_L_135 : Cond.methodLink RL 135 yL_step ∈ TB := TB_in (tb2 (List.mem_of_getElem? (i := 50) rfl)) rfl
theorem wm_L_10 : Cond.methodLink RL 10 yL_ships ∈ TB := TB_in (tb2 (List.mem_of_getElem? (i := 53) rfl)) rfl
theorem wm_L_76 : Cond.methodLink RL 76 yX6_ship ∈ TB := TB_in (tb2 (List.mem_of_getElem? (i := 56) rfl)) rfl
theorem wm_X6_96 : Cond.methodLink RX6 96 yJx4a65c_size_8abf5 ∈ TB := TB_in (tb2 (List.mem_of_getElem? (i := 60) rfl)) rfl
theorem wc_X6_66 : Cond.classLink RX6 66 "java/lang/IllegalStateException" ∈ TB := TB_in (tb2 (List.mem_of_getElem? (i := 61) rfl)) rfl
theorem wc_X6_101 : Cond.classLink RX6 101 "HarborTides$Ship" ∈ TB := TB_in (tb2 (List.mem_of_getElem? (i := 77) rfl)) rfl
theorem wm_X6_103 : Cond.methodLink RX6 103 yX4_init ∈ TB := TB_in (tb2 (List.mem_of_getElem? (i := 79) rfl)) rfl
theorem wf_X4_30 : Cond.fieldLink RX4 30 "HarborTides$Ship" "number" "I" ∈ TB := TB_in (tb2 (List.mem_of_getElem? (i := 83) rfl)) rfl
theorem wf_X6_192 : Cond.fieldLink RX6 192 "HarborTides$Ship" "number" "I" ∈ TB := TB_in (tb2 (List.mem_of_getElem? (i := 84) rfl)) rfl
theorem wf_X4_33 : Cond.fieldLink RX4 33 "HarborTides$Ship" "size" "I" ∈ TB := TB_in (tb2 (List.mem_of_getElem? (i := 85) rfl)) rfl
theorem wf_X6_225 : Cond.fieldLink RX6 225 "HarborTides$Ship" "size" "I" ∈ TB := TB_in (tb2 (List.mem_of_getElem? (i := 86) rfl)) rfl
theorem wf_X4_36 : Cond.fieldLink RX4 36 "HarborTides$Ship" "draught" "I" ∈ TB := TB_in (tb2 (List.mem_of_getElem? (i := 87) rfl)) rfl
theorem wf_X5_33 : Cond.fieldLink RX5 33 "HarborTides$Ship" "draught" "I" ∈ TB := TB_in (tb2 (List.mem_of_getElem? (i := 88) rfl)) rfl
theorem wf_X4_39 : Cond.fieldLink RX4 39 "HarborTides$Ship" "contract" "I" ∈ TB := TB_in (tb2 (List.mem_of_getElem? (i := 89) rfl)) rfl
theorem wf_X4_42 : Cond.fieldLink RX4 42 "HarborTides$Ship" "berth" "I" ∈ TB := TB_in (tb2 (List.mem_of_getElem? (i := 90) rfl)) rfl
theorem wf_X5_43 : Cond.fieldLink RX5 43 "HarborTides$Ship" "berth" "I" ∈ TB := TB_in (tb2 (List.mem_of_getElem? (i := 91) rfl)) rfl
theorem wf_X0_36 : Cond.fieldLink RX0 36 "HarborTides$Ship" "berth" "I" ∈ TB := TB_in (tb2 (List.mem_of_getElem? (i := 92) rfl)) rfl
theorem wf_X6_202 : Cond.fieldLink RX6 202 "HarborTides$Ship" "berth" "I" ∈ TB := TB_in (tb2 (List.mem_of_getElem? (i := 93) rfl)) rfl
theorem wf_X4_9 : Cond.fieldLink RX4 9 "HarborTides$Ship" "state" "I" ∈ TB := TB_in (tb2 (List.mem_of_getElem? (i := 94) rfl)) rfl
theorem wf_X6_138 : Cond.fieldLink RX6 138 "HarborTides$Ship" "state" "I" ∈ TB := TB_in (tb2 (List.mem_of_getElem? (i := 95) rfl)) rfl
theorem wf_X4_15 : Cond.fieldLink RX4 15 "HarborTides$Ship" "moveHour" "I" ∈ TB := TB_in (tb2 (List.mem_of_getElem? (i := 96) rfl)) rfl
theorem wf_X4_18 : Cond.fieldLink RX4 18 "HarborTides$Ship" "orderHour" "I" ∈ TB := TB_in (tb2 (List.mem_of_getElem? (i := 97) rfl)) rfl
theorem wf_X2_43 : Cond.fieldLink RX2 43 "HarborTides$Ship" "orderHour" "I" ∈ TB := TB_in (tb2 (List.mem_of_getElem? (i := 98) rfl)) rfl
theorem wf_X6_125 : Cond.fieldLink RX6 125 "HarborTides$Ship" "orderHour" "I" ∈ TB := TB_in (tb2 (List.mem_of_getElem? (i := 99) rfl)) rfl
theorem wf_X4_21 : Cond.fieldLink RX4 21 "HarborTides$Ship" "paid" "I" ∈ TB := TB_in (tb2 (List.mem_of_getElem? (i := 100) rfl)) rfl
theorem wf_X6_211 : Cond.fieldLink RX6 211 "HarborTides$Ship" "paid" "I" ∈ TB := TB_in (tb2 (List.mem_of_getElem? (i := 101) rfl)) rfl
theorem wf_X4_24 : Cond.fieldLink RX4 24 "HarborTides$Ship" "tidesLost" "I" ∈ TB := TB_in (tb2 (List.mem_of_getElem? (i := 102) rfl)) rfl
theorem wf_X6_217 : Cond.fieldLink RX6 217 "HarborTides$Ship" "tidesLost" "I" ∈ TB := TB_in (tb2 (List.mem_of_getElem? (i := 103) rfl)) rfl
theorem wf_X4_27 : Cond.fieldLink RX4 27 "HarborTides$Ship" "openClaims" "I" ∈ TB := TB_in (tb2 (List.mem_of_getElem? (i := 104) rfl)) rfl
theorem wf_X6_220 : Cond.fieldLink RX6 220 "HarborTides$Ship" "openClaims" "I" ∈ TB := TB_in (tb2 (List.mem_of_getElem? (i := 105) rfl)) rfl
theorem wm_X6_106 : Cond.methodLink RX6 106 yJx4a65c_add_9ea2d ∈ TB := TB_in (tb2 (List.mem_of_getElem? (i := 129) rfl)) rfl
theorem wm_Jx4a65c_131 : Cond.methodLink RJx4a65c 131 yJx4a65c_add_72be8 ∈ TB := TB_in (tb2 (List.mem_of_getElem? (i := 133) rfl)) rfl
theorem wm_Jx4a65c_129 : Cond.methodLink RJx4a65c 129 yJx4a65c_grow_d5877 ∈ TB := TB_in (tb2 (List.mem_of_getElem? (i := 137) rfl)) rfl
theorem wm_Jx4a65c_69 : Cond.methodLink RJx4a65c 69 yJx4a65c_grow_92f84 ∈ TB := TB_in (tb2 (List.mem_of_getElem? (i := 141) rfl)) rfl
theorem wm_Jx4a65c_73 : Cond.methodLink RJx4a65c 73 yJ8_newLength_cabcc ∈ TB := TB_in (tb2 (List.mem_of_getElem? (i := 145) rfl)) rfl
theorem wm_J8_194 : Cond.methodLink RJ8 194 yJ9_max_7cf53 ∈ TB := TB_in (tb2 (List.mem_of_getElem? (i := 148) rfl)) rfl
theorem wm_J8_201 : Cond.methodLink RJ8 201 yJ8_hugeLength_7cf53 ∈ TB := TB_in (tb2 (List.mem_of_getElem? (i := 152) rfl)) rfl
theorem wm_Jx4a65c_66 : Cond.methodLink RJx4a65c 66 yJ7_copyOf_1904c ∈ TB := TB_in (tb2 (List.mem_of_getElem? (i := 155) rfl)) rfl
theorem wm_J7_300 : Cond.methodLink RJ7 300 yJ7_copyOf_6403c ∈ TB := TB_in (tb2 (List.mem_of_getElem? (i := 173) rfl)) rfl
theorem wc_J7_110 : Cond.classLink RJ7 110 "[Ljava/lang/Object;" ∈ TB := TB_in (tb2 (List.mem_of_getElem? (i := 176) rfl)) rfl
theorem wc_J7_2 : Cond.classLink RJ7 2 "java/lang/Object" ∈ TB := TB_in (tb2 (List.mem_of_getElem? (i := 178) rfl)) rfl
theorem wm_J7_304 : Cond.methodLink RJ7 304 yJ9_min_7cf53 ∈ TB := TB_in (tb2 (List.mem_of_getElem? (i := 179) rfl)) rfl
theorem wm_Jx4a65c_79 : Cond.methodLink RJx4a65c 79 yJ9_max_7cf53 ∈ TB := TB_in (tb2 (List.mem_of_getElem? (i := 183) rfl)) rfl
theorem wc_Jx4a65c_7 : Cond.classLink RJx4a65c 7 "java/lang/Object" ∈ TB := TB_in (tb2 (List.mem_of_getElem? (i := 184) rfl)) rfl
theorem wm_L_80 : Cond.methodLink RL 80 yX6_state ∈ TB := TB_in (tb2 (List.mem_of_getElem? (i := 185) rfl)) rfl
theorem wm_X6_110 : Cond.methodLink RX6 110 yX6_shipAt ∈ TB := TB_in (tb2 (List.mem_of_getElem? (i := 189) rfl)) rfl
theorem wm_X6_238 : Cond.methodLink RX6 238 yJx4a65c_get_915e3 ∈ TB := TB_in (tb2 (List.mem_of_getElem? (i := 193) rfl)) rfl
theorem wm_L_67 : Cond.methodLink RL 67 yX6_paid ∈ TB := TB_in (tb2 (List.mem_of_getElem? (i := 194) rfl)) rfl
theorem wm_L_45 : Cond.methodLink RL 45 yX6_queue ∈ TB := TB_in (tb2 (List.mem_of_getElem? (i := 198) rfl)) rfl
theorem wm_X6_145 : Cond.methodLink RX6 145 yX2_placeOf ∈ TB := TB_in (tb2 (List.mem_of_getElem? (i := 202) rfl)) rfl
theorem wm_X2_18 : Cond.methodLink RX2 18 yJx4a65c_size_8abf5 ∈ TB := TB_in (tb2 (List.mem_of_getElem? (i := 206) rfl)) rfl
theorem wm_X2_22 : Cond.methodLink RX2 22 yJx4a65c_get_915e3 ∈ TB := TB_in (tb2 (List.mem_of_getElem? (i := 207) rfl)) rfl
theorem wm_L_16 : Cond.methodLink RL 16 yL_ofBerth ∈ TB := TB_in (tb2 (List.mem_of_getElem? (i := 208) rfl)) rfl
theorem wc_L_86 : Cond.classLink RL 86 "java/lang/IllegalStateException" ∈ TB := TB_in (tb2 (List.mem_of_getElem? (i := 211) rfl)) rfl
theorem wm_L_83 : Cond.methodLink RL 83 yX6_berth ∈ TB := TB_in (tb2 (List.mem_of_getElem? (i := 212) rfl)) rfl
theorem wm_X6_87 : Cond.methodLink RX6 87 yX0_hasMoveAt ∈ TB := TB_in (tb2 (List.mem_of_getElem? (i := 216) rfl)) rfl
theorem wm_L_20 : Cond.methodLink RL 20 yL_ofTable ∈ TB := TB_in (tb2 (List.mem_of_getElem? (i := 221) rfl)) rfl
theorem wm_L_88 : Cond.methodLink RL 88 yX6_table ∈ TB := TB_in (tb2 (List.mem_of_getElem? (i := 224) rfl)) rfl
theorem wm_L_33 : Cond.methodLink RL 33 yX6_wind ∈ TB := TB_in (tb2 (List.mem_of_getElem? (i := 229) rfl)) rfl
theorem wm_X6_80 : Cond.methodLink RX6 80 yX5_tellSurge ∈ TB := TB_in (tb2 (List.mem_of_getElem? (i := 233) rfl)) rfl
theorem wm_X5_27 : Cond.methodLink RX5 27 yJ9_min_7cf53 ∈ TB := TB_in (tb2 (List.mem_of_getElem? (i := 237) rfl)) rfl
theorem wm_L_37 : Cond.methodLink RL 37 yX6_order ∈ TB := TB_in (tb2 (List.mem_of_getElem? (i := 238) rfl)) rfl
theorem wm_X6_114 : Cond.methodLink RX6 114 yX4_canMove ∈ TB := TB_in (tb3 (List.mem_of_getElem? (i := 2) rfl)) rfl
theorem wm_X6_120 : Cond.methodLink RX6 120 yX4_hasOrder ∈ TB := TB_in (tb3 (List.mem_of_getElem? (i := 7) rfl)) rfl
theorem wm_X6_128 : Cond.methodLink RX6 128 yX2_insert ∈ TB := TB_in (tb3 (List.mem_of_getElem? (i := 12) rfl)) rfl
theorem wc_X2_26 : Cond.classLink RX2 26 "HarborTides$Ship" ∈ TB := TB_in (tb3 (List.mem_of_getElem? (i := 16) rfl)) rfl
theorem wm_X2_28 : Cond.methodLink RX2 28 yX4_isAheadOf ∈ TB := TB_in (tb3 (List.mem_of_getElem? (i := 17) rfl)) rfl
theorem wm_X2_32 : Cond.methodLink RX2 32 yJx4a65c_add_7a177 ∈ TB := TB_in (tb3 (List.mem_of_getElem? (i := 21) rfl)) rfl
theorem wm_Jx4a65c_135 : Cond.methodLink RJx4a65c 135 yJx4a65c_rangeCheckForAdd_d00df ∈ TB := TB_in (tb3 (List.mem_of_getElem? (i := 25) rfl)) rfl
theorem wm_X6_132 : Cond.methodLink RX6 132 yX2_count ∈ TB := TB_in (tb3 (List.mem_of_getElem? (i := 30) rfl)) rfl
theorem wm_L_41 : Cond.methodLink RL 41 yL_areOrders ∈ TB := TB_in (tb3 (List.mem_of_getElem? (i := 34) rfl)) rfl
theorem wm_L_48 : Cond.methodLink RL 48 yX6_cancel ∈ TB := TB_in (tb3 (List.mem_of_getElem? (i := 37) rfl)) rfl
theorem wm_X6_135 : Cond.methodLink RX6 135 yX2_drop ∈ TB := TB_in (tb3 (List.mem_of_getElem? (i := 42) rfl)) rfl
theorem wm_X2_36 : Cond.methodLink RX2 36 yX2_placeOf ∈ TB := TB_in (tb3 (List.mem_of_getElem? (i := 46) rfl)) rfl
theorem wm_X2_40 : Cond.methodLink RX2 40 yJx4a65c_remove_915e3 ∈ TB := TB_in (tb3 (List.mem_of_getElem? (i := 47) rfl)) rfl
theorem wm_Jx4a65c_144 : Cond.methodLink RJx4a65c 144 yJx4a65c_fastRemove_b59b0 ∈ TB := TB_in (tb3 (List.mem_of_getElem? (i := 51) rfl)) rfl
theorem wm_L_51 : Cond.methodLink RL 51 yX6_swap ∈ TB := TB_in (tb3 (List.mem_of_getElem? (i := 55) rfl)) rfl
theorem wm_X6_165 : Cond.methodLink RX6 165 yX3_exchange ∈ TB := TB_in (tb3 (List.mem_of_getElem? (i := 60) rfl)) rfl
theorem wm_L_54 : Cond.methodLink RL 54 yX6_rota ∈ TB := TB_in (tb3 (List.mem_of_getElem? (i := 64) rfl)) rfl
theorem wm_L_57 : Cond.methodLink RL 57 yL_isRota ∈ TB := TB_in (tb3 (List.mem_of_getElem? (i := 68) rfl)) rfl
theorem wm_L_61 : Cond.methodLink RL 61 yX6_claims ∈ TB := TB_in (tb3 (List.mem_of_getElem? (i := 71) rfl)) rfl
theorem wm_L_64 : Cond.methodLink RL 64 yX6_tugs ∈ TB := TB_in (tb3 (List.mem_of_getElem? (i := 75) rfl)) rfl
theorem wm_X6_176 : Cond.methodLink RX6 176 yX0_readyTugs ∈ TB := TB_in (tb3 (List.mem_of_getElem? (i := 79) rfl)) rfl
theorem wm_X0_54 : Cond.methodLink RX0 54 yX0_tugsOnDuty ∈ TB := TB_in (tb3 (List.mem_of_getElem? (i := 83) rfl)) rfl
theorem wm_L_70 : Cond.methodLink RL 70 yX6_payClaim ∈ TB := TB_in (tb3 (List.mem_of_getElem? (i := 86) rfl)) rfl
theorem wm_X6_227 : Cond.methodLink RX6 227 yX6_payPort ∈ TB := TB_in (tb3 (List.mem_of_getElem? (i := 91) rfl)) rfl
theorem wm_L_73 : Cond.methodLink RL 73 yL_hours ∈ TB := TB_in (tb3 (List.mem_of_getElem? (i := 95) rfl)) rfl
theorem wm_L_91 : Cond.methodLink RL 91 yX6_lost ∈ TB := TB_in (tb3 (List.mem_of_getElem? (i := 98) rfl)) rfl
theorem wm_L_94 : Cond.methodLink RL 94 yX6_pass ∈ TB := TB_in (tb3 (List.mem_of_getElem? (i := 102) rfl)) rfl
theorem wm_X6_151 : Cond.methodLink RX6 151 yX6_endMoves ∈ TB := TB_in (tb3 (List.mem_of_getElem? (i := 107) rfl)) rfl
theorem wm_X6_242 : Cond.methodLink RX6 242 yX4_endMove ∈ TB := TB_in (tb3 (List.mem_of_getElem? (i := 111) rfl)) rfl
theorem wm_X4_45 : Cond.methodLink RX4 45 yX4_canMove ∈ TB := TB_in (tb3 (List.mem_of_getElem? (i := 115) rfl)) rfl
theorem wm_X6_154 : Cond.methodLink RX6 154 yX6_takeBerthDues ∈ TB := TB_in (tb3 (List.mem_of_getElem? (i := 116) rfl)) rfl
theorem wm_X6_157 : Cond.methodLink RX6 157 yX6_lookAtOrders ∈ TB := TB_in (tb3 (List.mem_of_getElem? (i := 120) rfl)) rfl
theorem wm_X6_246 : Cond.methodLink RX6 246 yX2_at ∈ TB := TB_in (tb3 (List.mem_of_getElem? (i := 124) rfl)) rfl
theorem wm_X6_248 : Cond.methodLink RX6 248 yX6_settles ∈ TB := TB_in (tb3 (List.mem_of_getElem? (i := 128) rfl)) rfl
theorem wm_X6_141 : Cond.methodLink RX6 141 yX5_carries ∈ TB := TB_in (tb3 (List.mem_of_getElem? (i := 132) rfl)) rfl
theorem wm_X5_39 : Cond.methodLink RX5 39 yX5_depthAt ∈ TB := TB_in (tb3 (List.mem_of_getElem? (i := 136) rfl)) rfl
theorem wm_X6_252 : Cond.methodLink RX6 252 yX6_loseTide ∈ TB := TB_in (tb3 (List.mem_of_getElem? (i := 137) rfl)) rfl
theorem wm_X6_259 : Cond.methodLink RX6 259 yX6_payPilot ∈ TB := TB_in (tb3 (List.mem_of_getElem? (i := 141) rfl)) rfl
theorem wm_X6_255 : Cond.methodLink RX6 255 yX6_begins ∈ TB := TB_in (tb3 (List.mem_of_getElem? (i := 145) rfl)) rfl
theorem wm_X6_262 : Cond.methodLink RX6 262 yX6_berthIsFreeNow ∈ TB := TB_in (tb3 (List.mem_of_getElem? (i := 149) rfl)) rfl
theorem wm_X6_265 : Cond.methodLink RX6 265 yX6_firstReadyPilot ∈ TB := TB_in (tb3 (List.mem_of_getElem? (i := 153) rfl)) rfl
theorem wm_X6_268 : Cond.methodLink RX6 268 yX6_lowestOf ∈ TB := TB_in (tb3 (List.mem_of_getElem? (i := 157) rfl)) rfl
theorem wc_X6_184 : Cond.classLink RX6 184 "HarborTides$Move" ∈ TB := TB_in (tb3 (List.mem_of_getElem? (i := 160) rfl)) rfl
theorem wm_X6_271 : Cond.methodLink RX6 271 yX1_init ∈ TB := TB_in (tb3 (List.mem_of_getElem? (i := 162) rfl)) rfl
theorem wf_X1_7 : Cond.fieldLink RX1 7 "HarborTides$Move" "hour" "I" ∈ TB := TB_in (tb3 (List.mem_of_getElem? (i := 166) rfl)) rfl
theorem wf_X0_48 : Cond.fieldLink RX0 48 "HarborTides$Move" "hour" "I" ∈ TB := TB_in (tb3 (List.mem_of_getElem? (i := 167) rfl)) rfl
theorem wf_X6_183 : Cond.fieldLink RX6 183 "HarborTides$Move" "hour" "I" ∈ TB := TB_in (tb3 (List.mem_of_getElem? (i := 168) rfl)) rfl
theorem wf_X1_13 : Cond.fieldLink RX1 13 "HarborTides$Move" "ship" "LHarborTides$Ship;" ∈ TB := TB_in (tb3 (List.mem_of_getElem? (i := 169) rfl)) rfl
theorem wf_X0_32 : Cond.fieldLink RX0 32 "HarborTides$Move" "ship" "LHarborTides$Ship;" ∈ TB := TB_in (tb3 (List.mem_of_getElem? (i := 170) rfl)) rfl
theorem wf_X6_188 : Cond.fieldLink RX6 188 "HarborTides$Move" "ship" "LHarborTides$Ship;" ∈ TB := TB_in (tb3 (List.mem_of_getElem? (i := 171) rfl)) rfl
theorem wf_X1_17 : Cond.fieldLink RX1 17 "HarborTides$Move" "out" "Z" ∈ TB := TB_in (tb3 (List.mem_of_getElem? (i := 172) rfl)) rfl
theorem wf_X0_61 : Cond.fieldLink RX0 61 "HarborTides$Move" "out" "Z" ∈ TB := TB_in (tb3 (List.mem_of_getElem? (i := 173) rfl)) rfl
theorem wf_X6_198 : Cond.fieldLink RX6 198 "HarborTides$Move" "out" "Z" ∈ TB := TB_in (tb3 (List.mem_of_getElem? (i := 174) rfl)) rfl
theorem wf_X1_21 : Cond.fieldLink RX1 21 "HarborTides$Move" "pilot" "I" ∈ TB := TB_in (tb3 (List.mem_of_getElem? (i := 175) rfl)) rfl
theorem wf_X0_51 : Cond.fieldLink RX0 51 "HarborTides$Move" "pilot" "I" ∈ TB := TB_in (tb3 (List.mem_of_getElem? (i := 176) rfl)) rfl
theorem wf_X6_195 : Cond.fieldLink RX6 195 "HarborTides$Move" "pilot" "I" ∈ TB := TB_in (tb3 (List.mem_of_getElem? (i := 177) rfl)) rfl
theorem wf_X1_24 : Cond.fieldLink RX1 24 "HarborTides$Move" "tugs" "I" ∈ TB := TB_in (tb3 (List.mem_of_getElem? (i := 178) rfl)) rfl
theorem wf_X0_58 : Cond.fieldLink RX0 58 "HarborTides$Move" "tugs" "I" ∈ TB := TB_in (tb3 (List.mem_of_getElem? (i := 179) rfl)) rfl
theorem wf_X6_208 : Cond.fieldLink RX6 208 "HarborTides$Move" "tugs" "I" ∈ TB := TB_in (tb3 (List.mem_of_getElem? (i := 180) rfl)) rfl
theorem wm_X6_274 : Cond.methodLink RX6 274 yX0_note ∈ TB := TB_in (tb3 (List.mem_of_getElem? (i := 192) rfl)) rfl
theorem wm_X0_28 : Cond.methodLink RX0 28 yJx4a65c_add_9ea2d ∈ TB := TB_in (tb3 (List.mem_of_getElem? (i := 196) rfl)) rfl
theorem wm_X6_278 : Cond.methodLink RX6 278 yX3_sendLast ∈ TB := TB_in (tb3 (List.mem_of_getElem? (i := 197) rfl)) rfl
theorem wm_X6_281 : Cond.methodLink RX6 281 yX4_beginMove ∈ TB := TB_in (tb3 (List.mem_of_getElem? (i := 201) rfl)) rfl
theorem wm_X6_285 : Cond.methodLink RX6 285 yX6_payTugs ∈ TB := TB_in (tb3 (List.mem_of_getElem? (i := 205) rfl)) rfl
theorem wm_L_97 : Cond.methodLink RL 97 yL_isMove ∈ TB := TB_in (tb3 (List.mem_of_getElem? (i := 209) rfl)) rfl
theorem wm_L_105 : Cond.methodLink RL 105 yX6_move ∈ TB := TB_in (tb3 (List.mem_of_getElem? (i := 212) rfl)) rfl
theorem wm_X6_179 : Cond.methodLink RX6 179 yX0_at ∈ TB := TB_in (tb3 (List.mem_of_getElem? (i := 216) rfl)) rfl
theorem wm_L_112 : Cond.methodLink RL 112 yX6_isSound ∈ TB := TB_in (tb3 (List.mem_of_getElem? (i := 220) rfl)) rfl
theorem wm_X6_205 : Cond.methodLink RX6 205 yX0_berthIsFree ∈ TB := TB_in (tb3 (List.mem_of_getElem? (i := 224) rfl)) rfl
theorem wm_L_101 : Cond.methodLink RL 101 yL_isMoney ∈ TB := TB_in (tb3 (List.mem_of_getElem? (i := 228) rfl)) rfl
theorem wm_L_115 : Cond.methodLink RL 115 yX6_tugPay ∈ TB := TB_in (tb3 (List.mem_of_getElem? (i := 231) rfl)) rfl
theorem wm_L_121 : Cond.methodLink RL 121 yX6_earned ∈ TB := TB_in (tb3 (List.mem_of_getElem? (i := 235) rfl)) rfl
theorem wm_L_139 : Cond.methodLink RL 139 yL_isPort ∈ TB := TB_in (tb3 (List.mem_of_getElem? (i := 239) rfl)) rfl
theorem wm_L_124 : Cond.methodLink RL 124 yX6_hasWater ∈ TB := TB_in (tb4 (List.mem_of_getElem? (i := 2) rfl)) rfl
theorem wm_L_128 : Cond.methodLink RL 128 yL_hasWater ∈ TB := TB_in (tb4 (List.mem_of_getElem? (i := 6) rfl)) rfl
theorem ms_J7_fill_53178 : MS yJ7_fill_53178 cJ7_fill_53178 4 none 2 := ⟨TB_in (tb1 (List.mem_of_getElem? (i := 38) rfl)) rfl, TB_in (tb1 (List.mem_of_getElem? (i := 3) rfl)) rfl, TB_in (tb1 (List.mem_of_getElem? (i := 39) rfl)) rfl, by decide +kernel⟩
theorem mv_X6_depth : MV RX6 yX6_depth cX6_depth 2 (some .int) 1 := ⟨TB_in (tb1 (List.mem_of_getElem? (i := 145) rfl)) rfl, TB_in (tb1 (List.mem_of_getElem? (i := 146) rfl)) rfl, TB_in (tb1 (List.mem_of_getElem? (i := 1) rfl)) rfl, TB_in (tb1 (List.mem_of_getElem? (i := 147) rfl)) rfl, by decide +kernel⟩
theorem ms_X6_checkRange : MS yX6_checkRange cX6_checkRange 3 none 3 := ⟨TB_in (tb1 (List.mem_of_getElem? (i := 149) rfl)) rfl, TB_in (tb1 (List.mem_of_getElem? (i := 1) rfl)) rfl, TB_in (tb1 (List.mem_of_getElem? (i := 150) rfl)) rfl, by decide +kernel⟩
theorem mv_X5_depthAt : MV RX5 yX5_depthAt cX5_depthAt 2 (some .int) 1 := ⟨TB_in (tb1 (List.mem_of_getElem? (i := 220) rfl)) rfl, TB_in (tb1 (List.mem_of_getElem? (i := 221) rfl)) rfl, TB_in (tb1 (List.mem_of_getElem? (i := 2) rfl)) rfl, TB_in (tb1 (List.mem_of_getElem? (i := 222) rfl)) rfl, by decide +kernel⟩
theorem mv_X6_isReady : MV RX6 yX6_isReady cX6_isReady 2 (some .boolean) 1 := ⟨TB_in (tb1 (List.mem_of_getElem? (i := 224) rfl)) rfl, TB_in (tb1 (List.mem_of_getElem? (i := 225) rfl)) rfl, TB_in (tb1 (List.mem_of_getElem? (i := 1) rfl)) rfl, TB_in (tb1 (List.mem_of_getElem? (i := 226) rfl)) rfl, by decide +kernel⟩
theorem ms_X6_checkPlace : MS yX6_checkPlace cX6_checkPlace 2 none 2 := ⟨TB_in (tb1 (List.mem_of_getElem? (i := 228) rfl)) rfl, TB_in (tb1 (List.mem_of_getElem? (i := 1) rfl)) rfl, TB_in (tb1 (List.mem_of_getElem? (i := 229) rfl)) rfl, by decide +kernel⟩
theorem mv_X0_count : MV RX0 yX0_count cX0_count 1 (some .int) 0 := ⟨TB_in (tb2 (List.mem_of_getElem? (i := 7) rfl)) rfl, TB_in (tb2 (List.mem_of_getElem? (i := 8) rfl)) rfl, TB_in (tb1 (List.mem_of_getElem? (i := 5) rfl)) rfl, TB_in (tb2 (List.mem_of_getElem? (i := 9) rfl)) rfl, by decide +kernel⟩
theorem mv_Jx4a65c_size_8abf5 : MV RJx4a65c yJx4a65c_size_8abf5 cJx4a65c_size_8abf5 1 (some .int) 0 := ⟨TB_in (tb2 (List.mem_of_getElem? (i := 11) rfl)) rfl, TB_in (tb2 (List.mem_of_getElem? (i := 12) rfl)) rfl, TB_in (tb1 (List.mem_of_getElem? (i := 8) rfl)) rfl, TB_in (tb2 (List.mem_of_getElem? (i := 13) rfl)) rfl, by decide +kernel⟩
theorem mv_X0_pilotIsReady : MV RX0 yX0_pilotIsReady cX0_pilotIsReady 8 (some .boolean) 3 := ⟨TB_in (tb2 (List.mem_of_getElem? (i := 15) rfl)) rfl, TB_in (tb2 (List.mem_of_getElem? (i := 16) rfl)) rfl, TB_in (tb1 (List.mem_of_getElem? (i := 5) rfl)) rfl, TB_in (tb2 (List.mem_of_getElem? (i := 17) rfl)) rfl, by decide +kernel⟩
theorem ms_J9_min_7cf53 : MS yJ9_min_7cf53 cJ9_min_7cf53 2 (some .int) 2 := ⟨TB_in (tb2 (List.mem_of_getElem? (i := 19) rfl)) rfl, TB_in (tb1 (List.mem_of_getElem? (i := 15) rfl)) rfl, TB_in (tb2 (List.mem_of_getElem? (i := 20) rfl)) rfl, by decide +kernel⟩
theorem mv_Jx4a65c_get_915e3 : MV RJx4a65c yJx4a65c_get_915e3 cJx4a65c_get_915e3 2 (some (.object "java/lang/Object")) 1 := ⟨TB_in (tb2 (List.mem_of_getElem? (i := 22) rfl)) rfl, TB_in (tb2 (List.mem_of_getElem? (i := 23) rfl)) rfl, TB_in (tb1 (List.mem_of_getElem? (i := 8) rfl)) rfl, TB_in (tb2 (List.mem_of_getElem? (i := 24) rfl)) rfl, by decide +kernel⟩
theorem ms_J15_checkIndex_7cf53 : MS yJ15_checkIndex_7cf53 cJ15_checkIndex_7cf53 2 (some .int) 2 := ⟨TB_in (tb2 (List.mem_of_getElem? (i := 26) rfl)) rfl, TB_in (tb1 (List.mem_of_getElem? (i := 16) rfl)) rfl, TB_in (tb2 (List.mem_of_getElem? (i := 27) rfl)) rfl, by decide +kernel⟩
theorem ms_J3_checkIndex_8e157 : MS yJ3_checkIndex_8e157 cJ3_checkIndex_8e157 3 (some .int) 3 := ⟨TB_in (tb2 (List.mem_of_getElem? (i := 29) rfl)) rfl, TB_in (tb1 (List.mem_of_getElem? (i := 17) rfl)) rfl, TB_in (tb2 (List.mem_of_getElem? (i := 30) rfl)) rfl, by decide +kernel⟩
theorem mv_Jx4a65c_elementData_915e3 : MV RJx4a65c yJx4a65c_elementData_915e3 cJx4a65c_elementData_915e3 2 (some (.object "java/lang/Object")) 1 := ⟨TB_in (tb2 (List.mem_of_getElem? (i := 32) rfl)) rfl, TB_in (tb2 (List.mem_of_getElem? (i := 33) rfl)) rfl, TB_in (tb1 (List.mem_of_getElem? (i := 8) rfl)) rfl, TB_in (tb2 (List.mem_of_getElem? (i := 34) rfl)) rfl, by decide +kernel⟩
theorem mv_X6_moves : MV RX6 yX6_moves cX6_moves 1 (some .int) 0 := ⟨TB_in (tb2 (List.mem_of_getElem? (i := 37) rfl)) rfl, TB_in (tb2 (List.mem_of_getElem? (i := 38) rfl)) rfl, TB_in (tb1 (List.mem_of_getElem? (i := 1) rfl)) rfl, TB_in (tb2 (List.mem_of_getElem? (i := 39) rfl)) rfl, by decide +kernel⟩
theorem mv_X6_port : MV RX6 yX6_port cX6_port 1 (some .int) 0 := ⟨TB_in (tb2 (List.mem_of_getElem? (i := 41) rfl)) rfl, TB_in (tb2 (List.mem_of_getElem? (i := 42) rfl)) rfl, TB_in (tb1 (List.mem_of_getElem? (i := 1) rfl)) rfl, TB_in (tb2 (List.mem_of_getElem? (i := 43) rfl)) rfl, by decide +kernel⟩
theorem ms_L_draw : MS yL_draw cL_draw 2 (some .int) 2 := ⟨TB_in (tb2 (List.mem_of_getElem? (i := 45) rfl)) rfl, TB_in (tb1 (List.mem_of_getElem? (i := 0) rfl)) rfl, TB_in (tb2 (List.mem_of_getElem? (i := 46) rfl)) rfl, by decide +kernel⟩
theorem ms_L_step : MS yL_step cL_step 21 (some .boolean) 6 := ⟨TB_in (tb2 (List.mem_of_getElem? (i := 51) rfl)) rfl, TB_in (tb1 (List.mem_of_getElem? (i := 0) rfl)) rfl, TB_in (tb2 (List.mem_of_getElem? (i := 52) rfl)) rfl, by decide +kernel⟩
theorem ms_L_ships : MS yL_ships cL_ships 6 (some .boolean) 5 := ⟨TB_in (tb2 (List.mem_of_getElem? (i := 54) rfl)) rfl, TB_in (tb1 (List.mem_of_getElem? (i := 0) rfl)) rfl, TB_in (tb2 (List.mem_of_getElem? (i := 55) rfl)) rfl, by decide +kernel⟩
theorem mv_X6_ship : MV RX6 yX6_ship cX6_ship 6 (some .int) 4 := ⟨TB_in (tb2 (List.mem_of_getElem? (i := 57) rfl)) rfl, TB_in (tb2 (List.mem_of_getElem? (i := 58) rfl)) rfl, TB_in (tb1 (List.mem_of_getElem? (i := 1) rfl)) rfl, TB_in (tb2 (List.mem_of_getElem? (i := 59) rfl)) rfl, by decide +kernel⟩
theorem mv_Jx4a65c_add_9ea2d : MV RJx4a65c yJx4a65c_add_9ea2d cJx4a65c_add_9ea2d 2 (some .boolean) 1 := ⟨TB_in (tb2 (List.mem_of_getElem? (i := 130) rfl)) rfl, TB_in (tb2 (List.mem_of_getElem? (i := 131) rfl)) rfl, TB_in (tb1 (List.mem_of_getElem? (i := 8) rfl)) rfl, TB_in (tb2 (List.mem_of_getElem? (i := 132) rfl)) rfl, by decide +kernel⟩
theorem mv_Jx4a65c_add_72be8 : MV RJx4a65c yJx4a65c_add_72be8 cJx4a65c_add_72be8 4 none 3 := ⟨TB_in (tb2 (List.mem_of_getElem? (i := 135) rfl)) rfl, TB_in (tbP (List.mem_of_getElem? (i := 1) rfl)) rfl, TB_in (tb1 (List.mem_of_getElem? (i := 8) rfl)) rfl, TB_in (tb2 (List.mem_of_getElem? (i := 136) rfl)) rfl, by decide +kernel⟩
theorem mv_Jx4a65c_grow_d5877 : MV RJx4a65c yJx4a65c_grow_d5877 cJx4a65c_grow_d5877 1 (some (.array (.object "java/lang/Object"))) 0 := ⟨TB_in (tb2 (List.mem_of_getElem? (i := 139) rfl)) rfl, TB_in (tbP (List.mem_of_getElem? (i := 2) rfl)) rfl, TB_in (tb1 (List.mem_of_getElem? (i := 8) rfl)) rfl, TB_in (tb2 (List.mem_of_getElem? (i := 140) rfl)) rfl, by decide +kernel⟩
theorem mv_Jx4a65c_grow_92f84 : MV RJx4a65c yJx4a65c_grow_92f84 cJx4a65c_grow_92f84 4 (some (.array (.object "java/lang/Object"))) 1 := ⟨TB_in (tb2 (List.mem_of_getElem? (i := 143) rfl)) rfl, TB_in (tbP (List.mem_of_getElem? (i := 3) rfl)) rfl, TB_in (tb1 (List.mem_of_getElem? (i := 8) rfl)) rfl, TB_in (tb2 (List.mem_of_getElem? (i := 144) rfl)) rfl, by decide +kernel⟩
theorem ms_J8_newLength_cabcc : MS yJ8_newLength_cabcc cJ8_newLength_cabcc 4 (some .int) 3 := ⟨TB_in (tb2 (List.mem_of_getElem? (i := 146) rfl)) rfl, TB_in (tb1 (List.mem_of_getElem? (i := 20) rfl)) rfl, TB_in (tb2 (List.mem_of_getElem? (i := 147) rfl)) rfl, by decide +kernel⟩
theorem ms_J9_max_7cf53 : MS yJ9_max_7cf53 cJ9_max_7cf53 2 (some .int) 2 := ⟨TB_in (tb2 (List.mem_of_getElem? (i := 149) rfl)) rfl, TB_in (tb1 (List.mem_of_getElem? (i := 15) rfl)) rfl, TB_in (tb2 (List.mem_of_getElem? (i := 150) rfl)) rfl, by decide +kernel⟩
theorem ms_J8_hugeLength_7cf53 : MS yJ8_hugeLength_7cf53 cJ8_hugeLength_7cf53 3 (some .int) 2 := ⟨TB_in (tb2 (List.mem_of_getElem? (i := 153) rfl)) rfl, TB_in (tb1 (List.mem_of_getElem? (i := 20) rfl)) rfl, TB_in (tb2 (List.mem_of_getElem? (i := 154) rfl)) rfl, by decide +kernel⟩
theorem ms_J7_copyOf_1904c : MS yJ7_copyOf_1904c cJ7_copyOf_1904c 2 (some (.array (.object "java/lang/Object"))) 2 := ⟨TB_in (tb2 (List.mem_of_getElem? (i := 156) rfl)) rfl, TB_in (tb1 (List.mem_of_getElem? (i := 3) rfl)) rfl, TB_in (tb2 (List.mem_of_getElem? (i := 157) rfl)) rfl, by decide +kernel⟩
theorem ms_J7_copyOf_6403c : MS yJ7_copyOf_6403c cJ7_copyOf_6403c 4 (some (.array (.object "java/lang/Object"))) 3 := ⟨TB_in (tb2 (List.mem_of_getElem? (i := 174) rfl)) rfl, TB_in (tb1 (List.mem_of_getElem? (i := 3) rfl)) rfl, TB_in (tb2 (List.mem_of_getElem? (i := 175) rfl)) rfl, by decide +kernel⟩
theorem mv_X6_state : MV RX6 yX6_state cX6_state 2 (some .int) 1 := ⟨TB_in (tb2 (List.mem_of_getElem? (i := 186) rfl)) rfl, TB_in (tb2 (List.mem_of_getElem? (i := 187) rfl)) rfl, TB_in (tb1 (List.mem_of_getElem? (i := 1) rfl)) rfl, TB_in (tb2 (List.mem_of_getElem? (i := 188) rfl)) rfl, by decide +kernel⟩
theorem mv_X6_shipAt : MV RX6 yX6_shipAt cX6_shipAt 2 (some (.object "HarborTides$Ship")) 1 := ⟨TB_in (tb2 (List.mem_of_getElem? (i := 191) rfl)) rfl, TB_in (tbP (List.mem_of_getElem? (i := 4) rfl)) rfl, TB_in (tb1 (List.mem_of_getElem? (i := 1) rfl)) rfl, TB_in (tb2 (List.mem_of_getElem? (i := 192) rfl)) rfl, by decide +kernel⟩
theorem mv_X6_paid : MV RX6 yX6_paid cX6_paid 2 (some .int) 1 := ⟨TB_in (tb2 (List.mem_of_getElem? (i := 195) rfl)) rfl, TB_in (tb2 (List.mem_of_getElem? (i := 196) rfl)) rfl, TB_in (tb1 (List.mem_of_getElem? (i := 1) rfl)) rfl, TB_in (tb2 (List.mem_of_getElem? (i := 197) rfl)) rfl, by decide +kernel⟩
theorem mv_X6_queue : MV RX6 yX6_queue cX6_queue 2 (some .int) 1 := ⟨TB_in (tb2 (List.mem_of_getElem? (i := 199) rfl)) rfl, TB_in (tb2 (List.mem_of_getElem? (i := 200) rfl)) rfl, TB_in (tb1 (List.mem_of_getElem? (i := 1) rfl)) rfl, TB_in (tb2 (List.mem_of_getElem? (i := 201) rfl)) rfl, by decide +kernel⟩
theorem mv_X2_placeOf : MV RX2 yX2_placeOf cX2_placeOf 3 (some .int) 1 := ⟨TB_in (tb2 (List.mem_of_getElem? (i := 203) rfl)) rfl, TB_in (tb2 (List.mem_of_getElem? (i := 204) rfl)) rfl, TB_in (tb1 (List.mem_of_getElem? (i := 9) rfl)) rfl, TB_in (tb2 (List.mem_of_getElem? (i := 205) rfl)) rfl, by decide +kernel⟩
theorem mv_X6_berth : MV RX6 yX6_berth cX6_berth 4 (some .int) 2 := ⟨TB_in (tb2 (List.mem_of_getElem? (i := 213) rfl)) rfl, TB_in (tb2 (List.mem_of_getElem? (i := 214) rfl)) rfl, TB_in (tb1 (List.mem_of_getElem? (i := 1) rfl)) rfl, TB_in (tb2 (List.mem_of_getElem? (i := 215) rfl)) rfl, by decide +kernel⟩
theorem mv_X0_hasMoveAt : MV RX0 yX0_hasMoveAt cX0_hasMoveAt 3 (some .boolean) 1 := ⟨TB_in (tb2 (List.mem_of_getElem? (i := 217) rfl)) rfl, TB_in (tb2 (List.mem_of_getElem? (i := 218) rfl)) rfl, TB_in (tb1 (List.mem_of_getElem? (i := 5) rfl)) rfl, TB_in (tb2 (List.mem_of_getElem? (i := 219) rfl)) rfl, by decide +kernel⟩
theorem mv_X6_table : MV RX6 yX6_table cX6_table 4 (some .int) 2 := ⟨TB_in (tb2 (List.mem_of_getElem? (i := 225) rfl)) rfl, TB_in (tb2 (List.mem_of_getElem? (i := 226) rfl)) rfl, TB_in (tb1 (List.mem_of_getElem? (i := 1) rfl)) rfl, TB_in (tb2 (List.mem_of_getElem? (i := 227) rfl)) rfl, by decide +kernel⟩
theorem mv_X6_wind : MV RX6 yX6_wind cX6_wind 5 (some .int) 3 := ⟨TB_in (tb2 (List.mem_of_getElem? (i := 230) rfl)) rfl, TB_in (tb2 (List.mem_of_getElem? (i := 231) rfl)) rfl, TB_in (tb1 (List.mem_of_getElem? (i := 1) rfl)) rfl, TB_in (tb2 (List.mem_of_getElem? (i := 232) rfl)) rfl, by decide +kernel⟩
theorem mv_X5_tellSurge : MV RX5 yX5_tellSurge cX5_tellSurge 6 none 3 := ⟨TB_in (tb2 (List.mem_of_getElem? (i := 234) rfl)) rfl, TB_in (tb2 (List.mem_of_getElem? (i := 235) rfl)) rfl, TB_in (tb1 (List.mem_of_getElem? (i := 2) rfl)) rfl, TB_in (tb2 (List.mem_of_getElem? (i := 236) rfl)) rfl, by decide +kernel⟩
theorem mv_X6_order : MV RX6 yX6_order cX6_order 4 (some .int) 2 := ⟨TB_in (tb2 (List.mem_of_getElem? (i := 239) rfl)) rfl, TB_in (tb3 (List.mem_of_getElem? (i := 0) rfl)) rfl, TB_in (tb1 (List.mem_of_getElem? (i := 1) rfl)) rfl, TB_in (tb3 (List.mem_of_getElem? (i := 1) rfl)) rfl, by decide +kernel⟩
theorem mv_X4_canMove : MV RX4 yX4_canMove cX4_canMove 1 (some .boolean) 0 := ⟨TB_in (tb3 (List.mem_of_getElem? (i := 3) rfl)) rfl, TB_in (tb3 (List.mem_of_getElem? (i := 4) rfl)) rfl, TB_in (tb1 (List.mem_of_getElem? (i := 19) rfl)) rfl, TB_in (tb3 (List.mem_of_getElem? (i := 5) rfl)) rfl, by decide +kernel⟩
theorem mv_X4_hasOrder : MV RX4 yX4_hasOrder cX4_hasOrder 1 (some .boolean) 0 := ⟨TB_in (tb3 (List.mem_of_getElem? (i := 8) rfl)) rfl, TB_in (tb3 (List.mem_of_getElem? (i := 9) rfl)) rfl, TB_in (tb1 (List.mem_of_getElem? (i := 19) rfl)) rfl, TB_in (tb3 (List.mem_of_getElem? (i := 10) rfl)) rfl, by decide +kernel⟩
theorem mv_X2_insert : MV RX2 yX2_insert cX2_insert 3 none 1 := ⟨TB_in (tb3 (List.mem_of_getElem? (i := 13) rfl)) rfl, TB_in (tb3 (List.mem_of_getElem? (i := 14) rfl)) rfl, TB_in (tb1 (List.mem_of_getElem? (i := 9) rfl)) rfl, TB_in (tb3 (List.mem_of_getElem? (i := 15) rfl)) rfl, by decide +kernel⟩
theorem mv_X4_isAheadOf : MV RX4 yX4_isAheadOf cX4_isAheadOf 2 (some .boolean) 1 := ⟨TB_in (tb3 (List.mem_of_getElem? (i := 18) rfl)) rfl, TB_in (tb3 (List.mem_of_getElem? (i := 19) rfl)) rfl, TB_in (tb1 (List.mem_of_getElem? (i := 19) rfl)) rfl, TB_in (tb3 (List.mem_of_getElem? (i := 20) rfl)) rfl, by decide +kernel⟩
theorem mv_Jx4a65c_add_7a177 : MV RJx4a65c yJx4a65c_add_7a177 cJx4a65c_add_7a177 5 none 2 := ⟨TB_in (tb3 (List.mem_of_getElem? (i := 22) rfl)) rfl, TB_in (tb3 (List.mem_of_getElem? (i := 23) rfl)) rfl, TB_in (tb1 (List.mem_of_getElem? (i := 8) rfl)) rfl, TB_in (tb3 (List.mem_of_getElem? (i := 24) rfl)) rfl, by decide +kernel⟩
theorem mv_Jx4a65c_rangeCheckForAdd_d00df : MV RJx4a65c yJx4a65c_rangeCheckForAdd_d00df cJx4a65c_rangeCheckForAdd_d00df 2 none 1 := ⟨TB_in (tb3 (List.mem_of_getElem? (i := 27) rfl)) rfl, TB_in (tbP (List.mem_of_getElem? (i := 5) rfl)) rfl, TB_in (tb1 (List.mem_of_getElem? (i := 8) rfl)) rfl, TB_in (tb3 (List.mem_of_getElem? (i := 28) rfl)) rfl, by decide +kernel⟩
theorem mv_X2_count : MV RX2 yX2_count cX2_count 1 (some .int) 0 := ⟨TB_in (tb3 (List.mem_of_getElem? (i := 31) rfl)) rfl, TB_in (tb3 (List.mem_of_getElem? (i := 32) rfl)) rfl, TB_in (tb1 (List.mem_of_getElem? (i := 9) rfl)) rfl, TB_in (tb3 (List.mem_of_getElem? (i := 33) rfl)) rfl, by decide +kernel⟩
theorem ms_L_areOrders : MS yL_areOrders cL_areOrders 8 (some .boolean) 3 := ⟨TB_in (tb3 (List.mem_of_getElem? (i := 35) rfl)) rfl, TB_in (tb1 (List.mem_of_getElem? (i := 0) rfl)) rfl, TB_in (tb3 (List.mem_of_getElem? (i := 36) rfl)) rfl, by decide +kernel⟩
theorem mv_X6_cancel : MV RX6 yX6_cancel cX6_cancel 4 (some .int) 1 := ⟨TB_in (tb3 (List.mem_of_getElem? (i := 38) rfl)) rfl, TB_in (tb3 (List.mem_of_getElem? (i := 39) rfl)) rfl, TB_in (tb1 (List.mem_of_getElem? (i := 1) rfl)) rfl, TB_in (tb3 (List.mem_of_getElem? (i := 40) rfl)) rfl, by decide +kernel⟩
theorem mv_X2_drop : MV RX2 yX2_drop cX2_drop 3 none 1 := ⟨TB_in (tb3 (List.mem_of_getElem? (i := 43) rfl)) rfl, TB_in (tb3 (List.mem_of_getElem? (i := 44) rfl)) rfl, TB_in (tb1 (List.mem_of_getElem? (i := 9) rfl)) rfl, TB_in (tb3 (List.mem_of_getElem? (i := 45) rfl)) rfl, by decide +kernel⟩
theorem mv_Jx4a65c_remove_915e3 : MV RJx4a65c yJx4a65c_remove_915e3 cJx4a65c_remove_915e3 4 (some (.object "java/lang/Object")) 1 := ⟨TB_in (tb3 (List.mem_of_getElem? (i := 48) rfl)) rfl, TB_in (tb3 (List.mem_of_getElem? (i := 49) rfl)) rfl, TB_in (tb1 (List.mem_of_getElem? (i := 8) rfl)) rfl, TB_in (tb3 (List.mem_of_getElem? (i := 50) rfl)) rfl, by decide +kernel⟩
theorem mv_Jx4a65c_fastRemove_b59b0 : MV RJx4a65c yJx4a65c_fastRemove_b59b0 cJx4a65c_fastRemove_b59b0 4 none 2 := ⟨TB_in (tb3 (List.mem_of_getElem? (i := 53) rfl)) rfl, TB_in (tbP (List.mem_of_getElem? (i := 6) rfl)) rfl, TB_in (tb1 (List.mem_of_getElem? (i := 8) rfl)) rfl, TB_in (tb3 (List.mem_of_getElem? (i := 54) rfl)) rfl, by decide +kernel⟩
theorem mv_X6_swap : MV RX6 yX6_swap cX6_swap 3 (some .int) 2 := ⟨TB_in (tb3 (List.mem_of_getElem? (i := 56) rfl)) rfl, TB_in (tb3 (List.mem_of_getElem? (i := 57) rfl)) rfl, TB_in (tb1 (List.mem_of_getElem? (i := 1) rfl)) rfl, TB_in (tb3 (List.mem_of_getElem? (i := 58) rfl)) rfl, by decide +kernel⟩
theorem mv_X3_exchange : MV RX3 yX3_exchange cX3_exchange 5 (some .int) 2 := ⟨TB_in (tb3 (List.mem_of_getElem? (i := 61) rfl)) rfl, TB_in (tb3 (List.mem_of_getElem? (i := 62) rfl)) rfl, TB_in (tb1 (List.mem_of_getElem? (i := 4) rfl)) rfl, TB_in (tb3 (List.mem_of_getElem? (i := 63) rfl)) rfl, by decide +kernel⟩
theorem mv_X6_rota : MV RX6 yX6_rota cX6_rota 2 (some .int) 1 := ⟨TB_in (tb3 (List.mem_of_getElem? (i := 65) rfl)) rfl, TB_in (tb3 (List.mem_of_getElem? (i := 66) rfl)) rfl, TB_in (tb1 (List.mem_of_getElem? (i := 1) rfl)) rfl, TB_in (tb3 (List.mem_of_getElem? (i := 67) rfl)) rfl, by decide +kernel⟩
theorem ms_L_isRota : MS yL_isRota cL_isRota 3 (some .boolean) 1 := ⟨TB_in (tb3 (List.mem_of_getElem? (i := 69) rfl)) rfl, TB_in (tb1 (List.mem_of_getElem? (i := 0) rfl)) rfl, TB_in (tb3 (List.mem_of_getElem? (i := 70) rfl)) rfl, by decide +kernel⟩
theorem mv_X6_claims : MV RX6 yX6_claims cX6_claims 2 (some .int) 1 := ⟨TB_in (tb3 (List.mem_of_getElem? (i := 72) rfl)) rfl, TB_in (tb3 (List.mem_of_getElem? (i := 73) rfl)) rfl, TB_in (tb1 (List.mem_of_getElem? (i := 1) rfl)) rfl, TB_in (tb3 (List.mem_of_getElem? (i := 74) rfl)) rfl, by decide +kernel⟩
theorem mv_X6_tugs : MV RX6 yX6_tugs cX6_tugs 1 (some .int) 0 := ⟨TB_in (tb3 (List.mem_of_getElem? (i := 76) rfl)) rfl, TB_in (tb3 (List.mem_of_getElem? (i := 77) rfl)) rfl, TB_in (tb1 (List.mem_of_getElem? (i := 1) rfl)) rfl, TB_in (tb3 (List.mem_of_getElem? (i := 78) rfl)) rfl, by decide +kernel⟩
theorem mv_X0_readyTugs : MV RX0 yX0_readyTugs cX0_readyTugs 6 (some .int) 2 := ⟨TB_in (tb3 (List.mem_of_getElem? (i := 80) rfl)) rfl, TB_in (tb3 (List.mem_of_getElem? (i := 81) rfl)) rfl, TB_in (tb1 (List.mem_of_getElem? (i := 5) rfl)) rfl, TB_in (tb3 (List.mem_of_getElem? (i := 82) rfl)) rfl, by decide +kernel⟩
theorem ms_X0_tugsOnDuty : MS yX0_tugsOnDuty cX0_tugsOnDuty 3 (some .int) 1 := ⟨TB_in (tb3 (List.mem_of_getElem? (i := 84) rfl)) rfl, TB_in (tb1 (List.mem_of_getElem? (i := 5) rfl)) rfl, TB_in (tb3 (List.mem_of_getElem? (i := 85) rfl)) rfl, by decide +kernel⟩
theorem mv_X6_payClaim : MV RX6 yX6_payClaim cX6_payClaim 4 (some .int) 1 := ⟨TB_in (tb3 (List.mem_of_getElem? (i := 87) rfl)) rfl, TB_in (tb3 (List.mem_of_getElem? (i := 88) rfl)) rfl, TB_in (tb1 (List.mem_of_getElem? (i := 1) rfl)) rfl, TB_in (tb3 (List.mem_of_getElem? (i := 89) rfl)) rfl, by decide +kernel⟩
theorem mv_X6_payPort : MV RX6 yX6_payPort cX6_payPort 3 none 2 := ⟨TB_in (tb3 (List.mem_of_getElem? (i := 93) rfl)) rfl, TB_in (tbP (List.mem_of_getElem? (i := 7) rfl)) rfl, TB_in (tb1 (List.mem_of_getElem? (i := 1) rfl)) rfl, TB_in (tb3 (List.mem_of_getElem? (i := 94) rfl)) rfl, by decide +kernel⟩
theorem ms_L_hours : MS yL_hours cL_hours 11 (some .boolean) 3 := ⟨TB_in (tb3 (List.mem_of_getElem? (i := 96) rfl)) rfl, TB_in (tb1 (List.mem_of_getElem? (i := 0) rfl)) rfl, TB_in (tb3 (List.mem_of_getElem? (i := 97) rfl)) rfl, by decide +kernel⟩
theorem mv_X6_lost : MV RX6 yX6_lost cX6_lost 2 (some .int) 1 := ⟨TB_in (tb3 (List.mem_of_getElem? (i := 99) rfl)) rfl, TB_in (tb3 (List.mem_of_getElem? (i := 100) rfl)) rfl, TB_in (tb1 (List.mem_of_getElem? (i := 1) rfl)) rfl, TB_in (tb3 (List.mem_of_getElem? (i := 101) rfl)) rfl, by decide +kernel⟩
theorem mv_X6_pass : MV RX6 yX6_pass cX6_pass 4 (some .int) 1 := ⟨TB_in (tb3 (List.mem_of_getElem? (i := 103) rfl)) rfl, TB_in (tb3 (List.mem_of_getElem? (i := 104) rfl)) rfl, TB_in (tb1 (List.mem_of_getElem? (i := 1) rfl)) rfl, TB_in (tb3 (List.mem_of_getElem? (i := 105) rfl)) rfl, by decide +kernel⟩
theorem mv_X6_endMoves : MV RX6 yX6_endMoves cX6_endMoves 2 none 0 := ⟨TB_in (tb3 (List.mem_of_getElem? (i := 109) rfl)) rfl, TB_in (tbP (List.mem_of_getElem? (i := 8) rfl)) rfl, TB_in (tb1 (List.mem_of_getElem? (i := 1) rfl)) rfl, TB_in (tb3 (List.mem_of_getElem? (i := 110) rfl)) rfl, by decide +kernel⟩
theorem mv_X4_endMove : MV RX4 yX4_endMove cX4_endMove 2 none 1 := ⟨TB_in (tb3 (List.mem_of_getElem? (i := 112) rfl)) rfl, TB_in (tb3 (List.mem_of_getElem? (i := 113) rfl)) rfl, TB_in (tb1 (List.mem_of_getElem? (i := 19) rfl)) rfl, TB_in (tb3 (List.mem_of_getElem? (i := 114) rfl)) rfl, by decide +kernel⟩
theorem mv_X6_takeBerthDues : MV RX6 yX6_takeBerthDues cX6_takeBerthDues 3 none 0 := ⟨TB_in (tb3 (List.mem_of_getElem? (i := 118) rfl)) rfl, TB_in (tbP (List.mem_of_getElem? (i := 9) rfl)) rfl, TB_in (tb1 (List.mem_of_getElem? (i := 1) rfl)) rfl, TB_in (tb3 (List.mem_of_getElem? (i := 119) rfl)) rfl, by decide +kernel⟩
theorem mv_X6_lookAtOrders : MV RX6 yX6_lookAtOrders cX6_lookAtOrders 4 none 0 := ⟨TB_in (tb3 (List.mem_of_getElem? (i := 122) rfl)) rfl, TB_in (tbP (List.mem_of_getElem? (i := 10) rfl)) rfl, TB_in (tb1 (List.mem_of_getElem? (i := 1) rfl)) rfl, TB_in (tb3 (List.mem_of_getElem? (i := 123) rfl)) rfl, by decide +kernel⟩
theorem mv_X2_at : MV RX2 yX2_at cX2_at 2 (some (.object "HarborTides$Ship")) 1 := ⟨TB_in (tb3 (List.mem_of_getElem? (i := 125) rfl)) rfl, TB_in (tb3 (List.mem_of_getElem? (i := 126) rfl)) rfl, TB_in (tb1 (List.mem_of_getElem? (i := 9) rfl)) rfl, TB_in (tb3 (List.mem_of_getElem? (i := 127) rfl)) rfl, by decide +kernel⟩
theorem mv_X6_settles : MV RX6 yX6_settles cX6_settles 5 (some .boolean) 1 := ⟨TB_in (tb3 (List.mem_of_getElem? (i := 130) rfl)) rfl, TB_in (tbP (List.mem_of_getElem? (i := 11) rfl)) rfl, TB_in (tb1 (List.mem_of_getElem? (i := 1) rfl)) rfl, TB_in (tb3 (List.mem_of_getElem? (i := 131) rfl)) rfl, by decide +kernel⟩
theorem mv_X5_carries : MV RX5 yX5_carries cX5_carries 7 (some .boolean) 3 := ⟨TB_in (tb3 (List.mem_of_getElem? (i := 133) rfl)) rfl, TB_in (tb3 (List.mem_of_getElem? (i := 134) rfl)) rfl, TB_in (tb1 (List.mem_of_getElem? (i := 2) rfl)) rfl, TB_in (tb3 (List.mem_of_getElem? (i := 135) rfl)) rfl, by decide +kernel⟩
theorem mv_X6_loseTide : MV RX6 yX6_loseTide cX6_loseTide 3 none 1 := ⟨TB_in (tb3 (List.mem_of_getElem? (i := 139) rfl)) rfl, TB_in (tbP (List.mem_of_getElem? (i := 12) rfl)) rfl, TB_in (tb1 (List.mem_of_getElem? (i := 1) rfl)) rfl, TB_in (tb3 (List.mem_of_getElem? (i := 140) rfl)) rfl, by decide +kernel⟩
theorem mv_X6_payPilot : MV RX6 yX6_payPilot cX6_payPilot 3 none 2 := ⟨TB_in (tb3 (List.mem_of_getElem? (i := 143) rfl)) rfl, TB_in (tbP (List.mem_of_getElem? (i := 13) rfl)) rfl, TB_in (tb1 (List.mem_of_getElem? (i := 1) rfl)) rfl, TB_in (tb3 (List.mem_of_getElem? (i := 144) rfl)) rfl, by decide +kernel⟩
theorem mv_X6_begins : MV RX6 yX6_begins cX6_begins 5 (some .boolean) 2 := ⟨TB_in (tb3 (List.mem_of_getElem? (i := 147) rfl)) rfl, TB_in (tbP (List.mem_of_getElem? (i := 14) rfl)) rfl, TB_in (tb1 (List.mem_of_getElem? (i := 1) rfl)) rfl, TB_in (tb3 (List.mem_of_getElem? (i := 148) rfl)) rfl, by decide +kernel⟩
theorem mv_X6_berthIsFreeNow : MV RX6 yX6_berthIsFreeNow cX6_berthIsFreeNow 4 (some .boolean) 1 := ⟨TB_in (tb3 (List.mem_of_getElem? (i := 151) rfl)) rfl, TB_in (tbP (List.mem_of_getElem? (i := 15) rfl)) rfl, TB_in (tb1 (List.mem_of_getElem? (i := 1) rfl)) rfl, TB_in (tb3 (List.mem_of_getElem? (i := 152) rfl)) rfl, by decide +kernel⟩
theorem mv_X6_firstReadyPilot : MV RX6 yX6_firstReadyPilot cX6_firstReadyPilot 3 (some .int) 0 := ⟨TB_in (tb3 (List.mem_of_getElem? (i := 155) rfl)) rfl, TB_in (tbP (List.mem_of_getElem? (i := 16) rfl)) rfl, TB_in (tb1 (List.mem_of_getElem? (i := 1) rfl)) rfl, TB_in (tb3 (List.mem_of_getElem? (i := 156) rfl)) rfl, by decide +kernel⟩
theorem ms_X6_lowestOf : MS yX6_lowestOf cX6_lowestOf 5 (some .int) 2 := ⟨TB_in (tb3 (List.mem_of_getElem? (i := 158) rfl)) rfl, TB_in (tb1 (List.mem_of_getElem? (i := 1) rfl)) rfl, TB_in (tb3 (List.mem_of_getElem? (i := 159) rfl)) rfl, by decide +kernel⟩
theorem mv_X0_note : MV RX0 yX0_note cX0_note 2 none 1 := ⟨TB_in (tb3 (List.mem_of_getElem? (i := 193) rfl)) rfl, TB_in (tb3 (List.mem_of_getElem? (i := 194) rfl)) rfl, TB_in (tb1 (List.mem_of_getElem? (i := 5) rfl)) rfl, TB_in (tb3 (List.mem_of_getElem? (i := 195) rfl)) rfl, by decide +kernel⟩
theorem mv_X3_sendLast : MV RX3 yX3_sendLast cX3_sendLast 4 none 1 := ⟨TB_in (tb3 (List.mem_of_getElem? (i := 198) rfl)) rfl, TB_in (tb3 (List.mem_of_getElem? (i := 199) rfl)) rfl, TB_in (tb1 (List.mem_of_getElem? (i := 4) rfl)) rfl, TB_in (tb3 (List.mem_of_getElem? (i := 200) rfl)) rfl, by decide +kernel⟩
theorem mv_X4_beginMove : MV RX4 yX4_beginMove cX4_beginMove 3 none 2 := ⟨TB_in (tb3 (List.mem_of_getElem? (i := 202) rfl)) rfl, TB_in (tb3 (List.mem_of_getElem? (i := 203) rfl)) rfl, TB_in (tb1 (List.mem_of_getElem? (i := 19) rfl)) rfl, TB_in (tb3 (List.mem_of_getElem? (i := 204) rfl)) rfl, by decide +kernel⟩
theorem mv_X6_payTugs : MV RX6 yX6_payTugs cX6_payTugs 2 none 1 := ⟨TB_in (tb3 (List.mem_of_getElem? (i := 207) rfl)) rfl, TB_in (tbP (List.mem_of_getElem? (i := 17) rfl)) rfl, TB_in (tb1 (List.mem_of_getElem? (i := 1) rfl)) rfl, TB_in (tb3 (List.mem_of_getElem? (i := 208) rfl)) rfl, by decide +kernel⟩
theorem ms_L_isMove : MS yL_isMove cL_isMove 11 (some .boolean) 4 := ⟨TB_in (tb3 (List.mem_of_getElem? (i := 210) rfl)) rfl, TB_in (tb1 (List.mem_of_getElem? (i := 0) rfl)) rfl, TB_in (tb3 (List.mem_of_getElem? (i := 211) rfl)) rfl, by decide +kernel⟩
theorem mv_X6_move : MV RX6 yX6_move cX6_move 3 (some .int) 1 := ⟨TB_in (tb3 (List.mem_of_getElem? (i := 213) rfl)) rfl, TB_in (tb3 (List.mem_of_getElem? (i := 214) rfl)) rfl, TB_in (tb1 (List.mem_of_getElem? (i := 1) rfl)) rfl, TB_in (tb3 (List.mem_of_getElem? (i := 215) rfl)) rfl, by decide +kernel⟩
theorem mv_X0_at : MV RX0 yX0_at cX0_at 2 (some (.object "HarborTides$Move")) 1 := ⟨TB_in (tb3 (List.mem_of_getElem? (i := 217) rfl)) rfl, TB_in (tb3 (List.mem_of_getElem? (i := 218) rfl)) rfl, TB_in (tb1 (List.mem_of_getElem? (i := 5) rfl)) rfl, TB_in (tb3 (List.mem_of_getElem? (i := 219) rfl)) rfl, by decide +kernel⟩
theorem mv_X6_isSound : MV RX6 yX6_isSound cX6_isSound 3 (some .boolean) 1 := ⟨TB_in (tb3 (List.mem_of_getElem? (i := 221) rfl)) rfl, TB_in (tb3 (List.mem_of_getElem? (i := 222) rfl)) rfl, TB_in (tb1 (List.mem_of_getElem? (i := 1) rfl)) rfl, TB_in (tb3 (List.mem_of_getElem? (i := 223) rfl)) rfl, by decide +kernel⟩
theorem mv_X0_berthIsFree : MV RX0 yX0_berthIsFree cX0_berthIsFree 7 (some .boolean) 3 := ⟨TB_in (tb3 (List.mem_of_getElem? (i := 225) rfl)) rfl, TB_in (tb3 (List.mem_of_getElem? (i := 226) rfl)) rfl, TB_in (tb1 (List.mem_of_getElem? (i := 5) rfl)) rfl, TB_in (tb3 (List.mem_of_getElem? (i := 227) rfl)) rfl, by decide +kernel⟩
theorem ms_L_isMoney : MS yL_isMoney cL_isMoney 4 (some .boolean) 2 := ⟨TB_in (tb3 (List.mem_of_getElem? (i := 229) rfl)) rfl, TB_in (tb1 (List.mem_of_getElem? (i := 0) rfl)) rfl, TB_in (tb3 (List.mem_of_getElem? (i := 230) rfl)) rfl, by decide +kernel⟩
theorem mv_X6_tugPay : MV RX6 yX6_tugPay cX6_tugPay 1 (some .int) 0 := ⟨TB_in (tb3 (List.mem_of_getElem? (i := 232) rfl)) rfl, TB_in (tb3 (List.mem_of_getElem? (i := 233) rfl)) rfl, TB_in (tb1 (List.mem_of_getElem? (i := 1) rfl)) rfl, TB_in (tb3 (List.mem_of_getElem? (i := 234) rfl)) rfl, by decide +kernel⟩
theorem mv_X6_earned : MV RX6 yX6_earned cX6_earned 2 (some .int) 1 := ⟨TB_in (tb3 (List.mem_of_getElem? (i := 236) rfl)) rfl, TB_in (tb3 (List.mem_of_getElem? (i := 237) rfl)) rfl, TB_in (tb1 (List.mem_of_getElem? (i := 1) rfl)) rfl, TB_in (tb3 (List.mem_of_getElem? (i := 238) rfl)) rfl, by decide +kernel⟩
theorem ms_L_isPort : MS yL_isPort cL_isPort 8 (some .boolean) 4 := ⟨TB_in (tb4 (List.mem_of_getElem? (i := 0) rfl)) rfl, TB_in (tb1 (List.mem_of_getElem? (i := 0) rfl)) rfl, TB_in (tb4 (List.mem_of_getElem? (i := 1) rfl)) rfl, by decide +kernel⟩
theorem mv_X6_hasWater : MV RX6 yX6_hasWater cX6_hasWater 4 (some .boolean) 2 := ⟨TB_in (tb4 (List.mem_of_getElem? (i := 3) rfl)) rfl, TB_in (tb4 (List.mem_of_getElem? (i := 4) rfl)) rfl, TB_in (tb1 (List.mem_of_getElem? (i := 1) rfl)) rfl, TB_in (tb4 (List.mem_of_getElem? (i := 5) rfl)) rfl, by decide +kernel⟩
theorem ms_L_hasWater : MS yL_hasWater cL_hasWater 8 (some .boolean) 5 := ⟨TB_in (tb4 (List.mem_of_getElem? (i := 7) rfl)) rfl, TB_in (tb1 (List.mem_of_getElem? (i := 0) rfl)) rfl, TB_in (tb4 (List.mem_of_getElem? (i := 8) rfl)) rfl, by decide +kernel⟩
theorem in_X0 : ∀ w ∈ u_ws RX0 TX0 1, w ∈ TB := by
  intro w hw
  obtain ⟨k, hk, rfl⟩ := List.mem_map.mp hw
  have hk := List.mem_range.mp hk
  rcases (show k = 0 by omega) with rfl
  · exact TB_in (tb1 (List.mem_of_getElem? (i := 102) rfl)) rfl
theorem in_X1 : ∀ w ∈ u_ws RX1 TX1 5, w ∈ TB := by
  intro w hw
  obtain ⟨k, hk, rfl⟩ := List.mem_map.mp hw
  have hk := List.mem_range.mp hk
  rcases (show k = 0 ∨ k = 1 ∨ k = 2 ∨ k = 3 ∨ k = 4 by omega) with rfl | rfl | rfl | rfl | rfl
  · exact TB_in (tb3 (List.mem_of_getElem? (i := 181) rfl)) rfl
  · exact TB_in (tb3 (List.mem_of_getElem? (i := 183) rfl)) rfl
  · exact TB_in (tb3 (List.mem_of_getElem? (i := 185) rfl)) rfl
  · exact TB_in (tb3 (List.mem_of_getElem? (i := 187) rfl)) rfl
  · exact TB_in (tb3 (List.mem_of_getElem? (i := 189) rfl)) rfl
theorem in_X2 : ∀ w ∈ u_ws RX2 TX2 1, w ∈ TB := by
  intro w hw
  obtain ⟨k, hk, rfl⟩ := List.mem_map.mp hw
  have hk := List.mem_range.mp hk
  rcases (show k = 0 by omega) with rfl
  · exact TB_in (tb1 (List.mem_of_getElem? (i := 116) rfl)) rfl
theorem in_X3 : ∀ w ∈ u_ws RX3 TX3 2, w ∈ TB := by
  intro w hw
  obtain ⟨k, hk, rfl⟩ := List.mem_map.mp hw
  have hk := List.mem_range.mp hk
  rcases (show k = 0 ∨ k = 1 by omega) with rfl | rfl
  · exact TB_in (tb1 (List.mem_of_getElem? (i := 64) rfl)) rfl
  · exact TB_in (tb1 (List.mem_of_getElem? (i := 66) rfl)) rfl
theorem in_X4 : ∀ w ∈ u_ws RX4 TX4 11, w ∈ TB := by
  intro w hw
  obtain ⟨k, hk, rfl⟩ := List.mem_map.mp hw
  have hk := List.mem_range.mp hk
  rcases (show k = 0 ∨ k = 1 ∨ k = 2 ∨ k = 3 ∨ k = 4 ∨ k = 5 ∨ k = 6 ∨ k = 7 ∨ k = 8 ∨ k = 9 ∨ k = 10 by omega) with rfl | rfl | rfl | rfl | rfl | rfl | rfl | rfl | rfl | rfl | rfl
  · exact TB_in (tb2 (List.mem_of_getElem? (i := 106) rfl)) rfl
  · exact TB_in (tb2 (List.mem_of_getElem? (i := 108) rfl)) rfl
  · exact TB_in (tb2 (List.mem_of_getElem? (i := 110) rfl)) rfl
  · exact TB_in (tb2 (List.mem_of_getElem? (i := 112) rfl)) rfl
  · exact TB_in (tb2 (List.mem_of_getElem? (i := 114) rfl)) rfl
  · exact TB_in (tb2 (List.mem_of_getElem? (i := 116) rfl)) rfl
  · exact TB_in (tb2 (List.mem_of_getElem? (i := 118) rfl)) rfl
  · exact TB_in (tb2 (List.mem_of_getElem? (i := 120) rfl)) rfl
  · exact TB_in (tb2 (List.mem_of_getElem? (i := 122) rfl)) rfl
  · exact TB_in (tb2 (List.mem_of_getElem? (i := 124) rfl)) rfl
  · exact TB_in (tb2 (List.mem_of_getElem? (i := 126) rfl)) rfl
theorem in_X5 : ∀ w ∈ u_ws RX5 TX5 3, w ∈ TB := by
  intro w hw
  obtain ⟨k, hk, rfl⟩ := List.mem_map.mp hw
  have hk := List.mem_range.mp hk
  rcases (show k = 0 ∨ k = 1 ∨ k = 2 by omega) with rfl | rfl | rfl
  · exact TB_in (tb1 (List.mem_of_getElem? (i := 46) rfl)) rfl
  · exact TB_in (tb1 (List.mem_of_getElem? (i := 48) rfl)) rfl
  · exact TB_in (tb1 (List.mem_of_getElem? (i := 50) rfl)) rfl
theorem in_X6 : ∀ w ∈ u_ws RX6 TX6 8, w ∈ TB := by
  intro w hw
  obtain ⟨k, hk, rfl⟩ := List.mem_map.mp hw
  have hk := List.mem_range.mp hk
  rcases (show k = 0 ∨ k = 1 ∨ k = 2 ∨ k = 3 ∨ k = 4 ∨ k = 5 ∨ k = 6 ∨ k = 7 by omega) with rfl | rfl | rfl | rfl | rfl | rfl | rfl | rfl
  · exact TB_in (tb1 (List.mem_of_getElem? (i := 127) rfl)) rfl
  · exact TB_in (tb1 (List.mem_of_getElem? (i := 129) rfl)) rfl
  · exact TB_in (tb1 (List.mem_of_getElem? (i := 131) rfl)) rfl
  · exact TB_in (tb1 (List.mem_of_getElem? (i := 133) rfl)) rfl
  · exact TB_in (tb1 (List.mem_of_getElem? (i := 135) rfl)) rfl
  · exact TB_in (tb1 (List.mem_of_getElem? (i := 137) rfl)) rfl
  · exact TB_in (tb1 (List.mem_of_getElem? (i := 139) rfl)) rfl
  · exact TB_in (tb1 (List.mem_of_getElem? (i := 141) rfl)) rfl
theorem in_Jx4a65c : ∀ w ∈ u_ws RJx4a65c TJx4a65c 3, w ∈ TB := by
  intro w hw
  obtain ⟨k, hk, rfl⟩ := List.mem_map.mp hw
  have hk := List.mem_range.mp hk
  rcases (show k = 0 ∨ k = 1 ∨ k = 2 by omega) with rfl | rfl | rfl
  · exact TB_in (tb1 (List.mem_of_getElem? (i := 98) rfl)) rfl
  · exact TB_in (tb1 (List.mem_of_getElem? (i := 94) rfl)) rfl
  · exact TB_in (tb1 (List.mem_of_getElem? (i := 96) rfl)) rfl
