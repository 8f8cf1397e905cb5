section
-- ===== PART A: goes FIRST, ahead of the names: the tables' words, and 'selects' of the private methods out of them =====
/-- a private method of a class that the tables say can be made, by its rows of tables_1 -/
def lw_okq (q : MethodName × Nat) : Prop := (q.1.cls ≠ "java/lang/invoke/MethodHandle" ∧ q.1.cls ≠ "java/lang/invoke/VarHandle") ∧ Cond.instantiable q.1.cls q.2 ∈ tables_1 ∧ Cond.privateMethod q.1 ∈ tables_1 ∧ Cond.instanceMethod q.1 ∈ tables_1
theorem lw_p0 : lw_okq (⟨"java/lang/Throwable", "fillInStackTrace", "(I)Ljava/lang/Throwable;"⟩, 6) := ⟨⟨by decide +kernel, by decide +kernel⟩, List.mem_of_getElem? (i := 253) (by decide +kernel), List.mem_of_getElem? (i := 251) (by decide +kernel), List.mem_of_getElem? (i := 252) (by decide +kernel)⟩
theorem lw_p1 : lw_okq (⟨"java/util/ArrayList", "add", "(Ljava/lang/Object;[Ljava/lang/Object;I)V"⟩, 3) := ⟨⟨by decide +kernel, by decide +kernel⟩, List.mem_of_getElem? (i := 84) (by decide +kernel), List.mem_of_getElem? (i := 418) (by decide +kernel), List.mem_of_getElem? (i := 419) (by decide +kernel)⟩
theorem lw_p2 : lw_okq (⟨"java/util/ArrayList", "grow", "()[Ljava/lang/Object;"⟩, 3) := ⟨⟨by decide +kernel, by decide +kernel⟩, List.mem_of_getElem? (i := 84) (by decide +kernel), List.mem_of_getElem? (i := 422) (by decide +kernel), List.mem_of_getElem? (i := 423) (by decide +kernel)⟩
theorem lw_p3 : lw_okq (⟨"java/util/ArrayList", "grow", "(I)[Ljava/lang/Object;"⟩, 3) := ⟨⟨by decide +kernel, by decide +kernel⟩, List.mem_of_getElem? (i := 84) (by decide +kernel), List.mem_of_getElem? (i := 426) (by decide +kernel), List.mem_of_getElem? (i := 427) (by decide +kernel)⟩
theorem lw_p4 : lw_okq (⟨"HarborTides", "shipAt", "(I)LHarborTides$Ship;"⟩, 8) := ⟨⟨by decide +kernel, by decide +kernel⟩, List.mem_of_getElem? (i := 32) (by decide +kernel), List.mem_of_getElem? (i := 480) (by decide +kernel), List.mem_of_getElem? (i := 481) (by decide +kernel)⟩
theorem lw_p5 : lw_okq (⟨"java/util/ArrayList", "rangeCheckForAdd", "(I)V"⟩, 3) := ⟨⟨by decide +kernel, by decide +kernel⟩, List.mem_of_getElem? (i := 84) (by decide +kernel), List.mem_of_getElem? (i := 510) (by decide +kernel), List.mem_of_getElem? (i := 511) (by decide +kernel)⟩
theorem lw_p6 : lw_okq (⟨"java/util/ArrayList", "outOfBoundsMsg", "(I)Ljava/lang/String;"⟩, 3) := ⟨⟨by decide +kernel, by decide +kernel⟩, List.mem_of_getElem? (i := 84) (by decide +kernel), List.mem_of_getElem? (i := 515) (by decide +kernel), List.mem_of_getElem? (i := 516) (by decide +kernel)⟩
theorem lw_p7 : lw_okq (⟨"java/util/ArrayList", "fastRemove", "([Ljava/lang/Object;I)V"⟩, 3) := ⟨⟨by decide +kernel, by decide +kernel⟩, List.mem_of_getElem? (i := 84) (by decide +kernel), List.mem_of_getElem? (i := 776) (by decide +kernel), List.mem_of_getElem? (i := 777) (by decide +kernel)⟩
theorem lw_p8 : lw_okq (⟨"HarborTides", "endMoves", "()V"⟩, 8) := ⟨⟨by decide +kernel, by decide +kernel⟩, List.mem_of_getElem? (i := 32) (by decide +kernel), List.mem_of_getElem? (i := 815) (by decide +kernel), List.mem_of_getElem? (i := 816) (by decide +kernel)⟩
theorem lw_p9 : lw_okq (⟨"HarborTides", "takeBerthDues", "()V"⟩, 8) := ⟨⟨by decide +kernel, by decide +kernel⟩, List.mem_of_getElem? (i := 32) (by decide +kernel), List.mem_of_getElem? (i := 824) (by decide +kernel), List.mem_of_getElem? (i := 825) (by decide +kernel)⟩
theorem lw_p10 : lw_okq (⟨"HarborTides", "payPort", "(LHarborTides$Ship;I)V"⟩, 8) := ⟨⟨by decide +kernel, by decide +kernel⟩, List.mem_of_getElem? (i := 32) (by decide +kernel), List.mem_of_getElem? (i := 828) (by decide +kernel), List.mem_of_getElem? (i := 829) (by decide +kernel)⟩
theorem lw_p11 : lw_okq (⟨"HarborTides", "lookAtOrders", "()V"⟩, 8) := ⟨⟨by decide +kernel, by decide +kernel⟩, List.mem_of_getElem? (i := 32) (by decide +kernel), List.mem_of_getElem? (i := 832) (by decide +kernel), List.mem_of_getElem? (i := 833) (by decide +kernel)⟩
theorem lw_p12 : lw_okq (⟨"HarborTides", "settles", "(LHarborTides$Ship;)Z"⟩, 8) := ⟨⟨by decide +kernel, by decide +kernel⟩, List.mem_of_getElem? (i := 32) (by decide +kernel), List.mem_of_getElem? (i := 840) (by decide +kernel), List.mem_of_getElem? (i := 841) (by decide +kernel)⟩
theorem lw_p13 : lw_okq (⟨"HarborTides", "loseTide", "(LHarborTides$Ship;)V"⟩, 8) := ⟨⟨by decide +kernel, by decide +kernel⟩, List.mem_of_getElem? (i := 32) (by decide +kernel), List.mem_of_getElem? (i := 844) (by decide +kernel), List.mem_of_getElem? (i := 845) (by decide +kernel)⟩
theorem lw_p14 : lw_okq (⟨"HarborTides", "payPilot", "(LHarborTides$Ship;I)V"⟩, 8) := ⟨⟨by decide +kernel, by decide +kernel⟩, List.mem_of_getElem? (i := 32) (by decide +kernel), List.mem_of_getElem? (i := 848) (by decide +kernel), List.mem_of_getElem? (i := 849) (by decide +kernel)⟩
theorem lw_p15 : lw_okq (⟨"HarborTides", "begins", "(LHarborTides$Ship;Z)Z"⟩, 8) := ⟨⟨by decide +kernel, by decide +kernel⟩, List.mem_of_getElem? (i := 32) (by decide +kernel), List.mem_of_getElem? (i := 852) (by decide +kernel), List.mem_of_getElem? (i := 853) (by decide +kernel)⟩
def lw_privs_1 : List (MethodName × Nat) := [(⟨"java/lang/Throwable", "fillInStackTrace", "(I)Ljava/lang/Throwable;"⟩, 6), (⟨"java/util/ArrayList", "add", "(Ljava/lang/Object;[Ljava/lang/Object;I)V"⟩, 3), (⟨"java/util/ArrayList", "grow", "()[Ljava/lang/Object;"⟩, 3), (⟨"java/util/ArrayList", "grow", "(I)[Ljava/lang/Object;"⟩, 3), (⟨"HarborTides", "shipAt", "(I)LHarborTides$Ship;"⟩, 8), (⟨"java/util/ArrayList", "rangeCheckForAdd", "(I)V"⟩, 3), (⟨"java/util/ArrayList", "outOfBoundsMsg", "(I)Ljava/lang/String;"⟩, 3), (⟨"java/util/ArrayList", "fastRemove", "([Ljava/lang/Object;I)V"⟩, 3), (⟨"HarborTides", "endMoves", "()V"⟩, 8), (⟨"HarborTides", "takeBerthDues", "()V"⟩, 8), (⟨"HarborTides", "payPort", "(LHarborTides$Ship;I)V"⟩, 8), (⟨"HarborTides", "lookAtOrders", "()V"⟩, 8), (⟨"HarborTides", "settles", "(LHarborTides$Ship;)Z"⟩, 8), (⟨"HarborTides", "loseTide", "(LHarborTides$Ship;)V"⟩, 8), (⟨"HarborTides", "payPilot", "(LHarborTides$Ship;I)V"⟩, 8), (⟨"HarborTides", "begins", "(LHarborTides$Ship;Z)Z"⟩, 8)]
theorem lw_r1 : ∀ q ∈ lw_privs_1, lw_okq q := List.forall_mem_cons.mpr ⟨lw_p0, List.forall_mem_cons.mpr ⟨lw_p1, List.forall_mem_cons.mpr ⟨lw_p2, List.forall_mem_cons.mpr ⟨lw_p3, List.forall_mem_cons.mpr ⟨lw_p4, List.forall_mem_cons.mpr ⟨lw_p5, List.forall_mem_cons.mpr ⟨lw_p6, List.forall_mem_cons.mpr ⟨lw_p7, List.forall_mem_cons.mpr ⟨lw_p8, List.forall_mem_cons.mpr ⟨lw_p9, List.forall_mem_cons.mpr ⟨lw_p10, List.forall_mem_cons.mpr ⟨lw_p11, List.forall_mem_cons.mpr ⟨lw_p12, List.forall_mem_cons.mpr ⟨lw_p13, List.forall_mem_cons.mpr ⟨lw_p14, List.forall_mem_cons.mpr ⟨lw_p15, fun _ h => absurd h List.not_mem_nil⟩⟩⟩⟩⟩⟩⟩⟩⟩⟩⟩⟩⟩⟩⟩⟩
theorem lw_p16 : lw_okq (⟨"HarborTides", "berthIsFreeNow", "(I)Z"⟩, 8) := ⟨⟨by decide +kernel, by decide +kernel⟩, List.mem_of_getElem? (i := 32) (by decide +kernel), List.mem_of_getElem? (i := 856) (by decide +kernel), List.mem_of_getElem? (i := 857) (by decide +kernel)⟩
theorem lw_p17 : lw_okq (⟨"HarborTides", "firstReadyPilot", "()I"⟩, 8) := ⟨⟨by decide +kernel, by decide +kernel⟩, List.mem_of_getElem? (i := 32) (by decide +kernel), List.mem_of_getElem? (i := 860) (by decide +kernel), List.mem_of_getElem? (i := 861) (by decide +kernel)⟩
theorem lw_p18 : lw_okq (⟨"HarborTides", "payTugs", "(LHarborTides$Ship;)V"⟩, 8) := ⟨⟨by decide +kernel, by decide +kernel⟩, List.mem_of_getElem? (i := 32) (by decide +kernel), List.mem_of_getElem? (i := 916) (by decide +kernel), List.mem_of_getElem? (i := 917) (by decide +kernel)⟩
theorem lw_p19 : lw_okq (⟨"HarborTidesModel", "holds", "(I)Z"⟩, 26) := ⟨⟨by decide +kernel, by decide +kernel⟩, List.mem_of_getElem? (i := 1004) (by decide +kernel), List.mem_of_getElem? (i := 1101) (by decide +kernel), List.mem_of_getElem? (i := 1102) (by decide +kernel)⟩
theorem lw_p20 : lw_okq (⟨"HarborTidesModel", "depthOf", "(I)I"⟩, 26) := ⟨⟨by decide +kernel, by decide +kernel⟩, List.mem_of_getElem? (i := 1004) (by decide +kernel), List.mem_of_getElem? (i := 1113) (by decide +kernel), List.mem_of_getElem? (i := 1114) (by decide +kernel)⟩
theorem lw_p21 : lw_okq (⟨"HarborTidesModel", "wasUsed", "(I)Z"⟩, 26) := ⟨⟨by decide +kernel, by decide +kernel⟩, List.mem_of_getElem? (i := 1004) (by decide +kernel), List.mem_of_getElem? (i := 1121) (by decide +kernel), List.mem_of_getElem? (i := 1122) (by decide +kernel)⟩
theorem lw_p22 : lw_okq (⟨"HarborTidesModel", "isShip", "(I)Z"⟩, 26) := ⟨⟨by decide +kernel, by decide +kernel⟩, List.mem_of_getElem? (i := 1004) (by decide +kernel), List.mem_of_getElem? (i := 1133) (by decide +kernel), List.mem_of_getElem? (i := 1134) (by decide +kernel)⟩
theorem lw_p23 : lw_okq (⟨"HarborTidesModel", "ordered", "()I"⟩, 26) := ⟨⟨by decide +kernel, by decide +kernel⟩, List.mem_of_getElem? (i := 1004) (by decide +kernel), List.mem_of_getElem? (i := 1137) (by decide +kernel), List.mem_of_getElem? (i := 1138) (by decide +kernel)⟩
theorem lw_p24 : lw_okq (⟨"HarborTidesModel", "floats", "(II)Z"⟩, 26) := ⟨⟨by decide +kernel, by decide +kernel⟩, List.mem_of_getElem? (i := 1004) (by decide +kernel), List.mem_of_getElem? (i := 1149) (by decide +kernel), List.mem_of_getElem? (i := 1150) (by decide +kernel)⟩
theorem lw_p25 : lw_okq (⟨"HarborTidesModel", "isAhead", "(II)Z"⟩, 26) := ⟨⟨by decide +kernel, by decide +kernel⟩, List.mem_of_getElem? (i := 1004) (by decide +kernel), List.mem_of_getElem? (i := 1161) (by decide +kernel), List.mem_of_getElem? (i := 1162) (by decide +kernel)⟩
theorem lw_p26 : lw_okq (⟨"HarborTidesModel", "placeOf", "(I)I"⟩, 26) := ⟨⟨by decide +kernel, by decide +kernel⟩, List.mem_of_getElem? (i := 1004) (by decide +kernel), List.mem_of_getElem? (i := 1172) (by decide +kernel), List.mem_of_getElem? (i := 1173) (by decide +kernel)⟩
theorem lw_p27 : lw_okq (⟨"HarborTidesModel", "isPilotReady", "(I)Z"⟩, 26) := ⟨⟨by decide +kernel, by decide +kernel⟩, List.mem_of_getElem? (i := 1004) (by decide +kernel), List.mem_of_getElem? (i := 1184) (by decide +kernel), List.mem_of_getElem? (i := 1185) (by decide +kernel)⟩
theorem lw_p28 : lw_okq (⟨"HarborTidesModel", "tugsNow", "()I"⟩, 26) := ⟨⟨by decide +kernel, by decide +kernel⟩, List.mem_of_getElem? (i := 1004) (by decide +kernel), List.mem_of_getElem? (i := 1192) (by decide +kernel), List.mem_of_getElem? (i := 1193) (by decide +kernel)⟩
theorem lw_p29 : lw_okq (⟨"HarborTidesModel", "passes", "()V"⟩, 26) := ⟨⟨by decide +kernel, by decide +kernel⟩, List.mem_of_getElem? (i := 1004) (by decide +kernel), List.mem_of_getElem? (i := 1200) (by decide +kernel), List.mem_of_getElem? (i := 1201) (by decide +kernel)⟩
theorem lw_p30 : lw_okq (⟨"HarborTidesModel", "pays", "(II)V"⟩, 26) := ⟨⟨by decide +kernel, by decide +kernel⟩, List.mem_of_getElem? (i := 1004) (by decide +kernel), List.mem_of_getElem? (i := 1204) (by decide +kernel), List.mem_of_getElem? (i := 1205) (by decide +kernel)⟩
theorem lw_p31 : lw_okq (⟨"HarborTidesModel", "looksAt", "(I)V"⟩, 26) := ⟨⟨by decide +kernel, by decide +kernel⟩, List.mem_of_getElem? (i := 1004) (by decide +kernel), List.mem_of_getElem? (i := 1208) (by decide +kernel), List.mem_of_getElem? (i := 1209) (by decide +kernel)⟩
def lw_privs_2 : List (MethodName × Nat) := [(⟨"HarborTides", "berthIsFreeNow", "(I)Z"⟩, 8), (⟨"HarborTides", "firstReadyPilot", "()I"⟩, 8), (⟨"HarborTides", "payTugs", "(LHarborTides$Ship;)V"⟩, 8), (⟨"HarborTidesModel", "holds", "(I)Z"⟩, 26), (⟨"HarborTidesModel", "depthOf", "(I)I"⟩, 26), (⟨"HarborTidesModel", "wasUsed", "(I)Z"⟩, 26), (⟨"HarborTidesModel", "isShip", "(I)Z"⟩, 26), (⟨"HarborTidesModel", "ordered", "()I"⟩, 26), (⟨"HarborTidesModel", "floats", "(II)Z"⟩, 26), (⟨"HarborTidesModel", "isAhead", "(II)Z"⟩, 26), (⟨"HarborTidesModel", "placeOf", "(I)I"⟩, 26), (⟨"HarborTidesModel", "isPilotReady", "(I)Z"⟩, 26), (⟨"HarborTidesModel", "tugsNow", "()I"⟩, 26), (⟨"HarborTidesModel", "passes", "()V"⟩, 26), (⟨"HarborTidesModel", "pays", "(II)V"⟩, 26), (⟨"HarborTidesModel", "looksAt", "(I)V"⟩, 26)]
theorem lw_r2 : ∀ q ∈ lw_privs_2, lw_okq q := List.forall_mem_cons.mpr ⟨lw_p16, List.forall_mem_cons.mpr ⟨lw_p17, List.forall_mem_cons.mpr ⟨lw_p18, List.forall_mem_cons.mpr ⟨lw_p19, List.forall_mem_cons.mpr ⟨lw_p20, List.forall_mem_cons.mpr ⟨lw_p21, List.forall_mem_cons.mpr ⟨lw_p22, List.forall_mem_cons.mpr ⟨lw_p23, List.forall_mem_cons.mpr ⟨lw_p24, List.forall_mem_cons.mpr ⟨lw_p25, List.forall_mem_cons.mpr ⟨lw_p26, List.forall_mem_cons.mpr ⟨lw_p27, List.forall_mem_cons.mpr ⟨lw_p28, List.forall_mem_cons.mpr ⟨lw_p29, List.forall_mem_cons.mpr ⟨lw_p30, List.forall_mem_cons.mpr ⟨lw_p31, fun _ h => absurd h List.not_mem_nil⟩⟩⟩⟩⟩⟩⟩⟩⟩⟩⟩⟩⟩⟩⟩⟩
theorem lw_p32 : lw_okq (⟨"HarborTidesModel", "isFree", "(I)Z"⟩, 26) := ⟨⟨by decide +kernel, by decide +kernel⟩, List.mem_of_getElem? (i := 1004) (by decide +kernel), List.mem_of_getElem? (i := 1212) (by decide +kernel), List.mem_of_getElem? (i := 1213) (by decide +kernel)⟩
theorem lw_p33 : lw_okq (⟨"HarborTidesModel", "firstReady", "()I"⟩, 26) := ⟨⟨by decide +kernel, by decide +kernel⟩, List.mem_of_getElem? (i := 1004) (by decide +kernel), List.mem_of_getElem? (i := 1216) (by decide +kernel), List.mem_of_getElem? (i := 1217) (by decide +kernel)⟩
theorem lw_p34 : lw_okq (⟨"HarborTidesModel", "loses", "(I)V"⟩, 26) := ⟨⟨by decide +kernel, by decide +kernel⟩, List.mem_of_getElem? (i := 1004) (by decide +kernel), List.mem_of_getElem? (i := 1223) (by decide +kernel), List.mem_of_getElem? (i := 1224) (by decide +kernel)⟩
theorem lw_p35 : lw_okq (⟨"HarborTidesModel", "begins", "(I)V"⟩, 26) := ⟨⟨by decide +kernel, by decide +kernel⟩, List.mem_of_getElem? (i := 1004) (by decide +kernel), List.mem_of_getElem? (i := 1227) (by decide +kernel), List.mem_of_getElem? (i := 1228) (by decide +kernel)⟩
theorem lw_p36 : lw_okq (⟨"HarborTidesModel", "isMove", "(I)Z"⟩, 26) := ⟨⟨by decide +kernel, by decide +kernel⟩, List.mem_of_getElem? (i := 1004) (by decide +kernel), List.mem_of_getElem? (i := 1242) (by decide +kernel), List.mem_of_getElem? (i := 1243) (by decide +kernel)⟩
def lw_privs_3 : List (MethodName × Nat) := [(⟨"HarborTidesModel", "isFree", "(I)Z"⟩, 26), (⟨"HarborTidesModel", "firstReady", "()I"⟩, 26), (⟨"HarborTidesModel", "loses", "(I)V"⟩, 26), (⟨"HarborTidesModel", "begins", "(I)V"⟩, 26), (⟨"HarborTidesModel", "isMove", "(I)Z"⟩, 26)]
theorem lw_r3 : ∀ q ∈ lw_privs_3, lw_okq q := List.forall_mem_cons.mpr ⟨lw_p32, List.forall_mem_cons.mpr ⟨lw_p33, List.forall_mem_cons.mpr ⟨lw_p34, List.forall_mem_cons.mpr ⟨lw_p35, List.forall_mem_cons.mpr ⟨lw_p36, fun _ h => absurd h List.not_mem_nil⟩⟩⟩⟩⟩
def lw_privs : List (MethodName × Nat) := lw_privs_1 ++ (lw_privs_2 ++ (lw_privs_3))
def lw_tbl : List Cond := k2_sels lw_privs ++ tables_1
theorem lw_privs_ok : ∀ q ∈ lw_privs, lw_okq q := by
  show ∀ q ∈ lw_privs_1 ++ (lw_privs_2 ++ (lw_privs_3)), lw_okq q
  exact List.forall_mem_append.mpr ⟨lw_r1, List.forall_mem_append.mpr ⟨lw_r2, lw_r3⟩⟩
-- ===== end of PART A; then your names; then what follows =====
/-! ===== BEGIN words of one list among another's, by their places ===== -/
theorem goodIn_r {big : List Cond} (ws : List Cond) (ps : List Nat) (hp : ws = ps.filterMap (fun i => big[i]?)) (h : ws.all goodWord = true) : GoodIn big ws := by
  intro w hw
  have h1 := List.all_eq_true.mp h w hw
  rw [hp] at hw
  obtain ⟨i, -, hi⟩ := List.mem_filterMap.mp hw
  have hm : w ∈ big := by first | exact List.mem_of_getElem? hi | exact List.getElem?_mem hi
  exact ⟨hm, good_of_word h1⟩
theorem goodIn_app {big a b : List Cond} (ha : GoodIn big a) (hb : GoodIn big b) : GoodIn big (a ++ b) := fun w h => (List.mem_append.mp h).elim (ha w) (hb w)
theorem goodIn_ca {big a b : List Cond} {c : Cond} (ha : GoodIn big (c :: a)) (hb : GoodIn big b) : GoodIn big (c :: (a ++ b)) := fun w h => (List.mem_cons.mp h).elim (fun e => ha w (List.mem_cons.mpr (Or.inl e))) (fun h => (List.mem_append.mp h).elim (fun h => ha w (List.mem_cons.mpr (Or.inr h))) (hb w))
theorem goodIn_sub {big ws : List Cond} (hm : ∀ w ∈ ws, w ∈ big) (h : ws.all goodWord = true) : GoodIn big ws := fun w hw => ⟨hm w hw, good_of_word (List.all_eq_true.mp h w hw)⟩
/-! ===== END ===== -/

/-! ===== BEGIN exceptions that leave a method, and their catching by the caller (launches without stack traces) ===== -/
section VXA
/-! The laws vx_back, vx_callV, vx_callS, vx_callSW, vx_throw0, vx_throwS follow proofs of the library, with one case more: JvmDerived/Free/Laws.lean (Back.of_free), Shelf42/LK1.lean (callV, callS), Shelf/KitTraced.lean (throwNew0V, throwNewS). -/
/-- where a method has thrown q: the class by its name, the cell, what was written, the world -/
def vx_T (XC : String → State → State → Prop) (st : State) (q : Addr) (t : State) (mc ms : Nat) (free : Addr → Prop) : Prop :=
  ∃ (E : String) (ce : Cell) (L : List Loc), XC E st t ∧ t.heap[q]? = some ce ∧ ce.vm = .none ∧ st.vm.findClass E = some ce.cls ∧ st.WarmedH t.vm ∧ st.sameButNew ({ t with vm := st.vm } : State) L mc ms ∧ ∀ z ∈ L, free z.base
def vx_Q (Qc : Array Value → State → Outcome → State → Prop) (XC : String → State → State → Prop) (mc ms : Nat) (free : Addr → Prop) : Array Value → State → Outcome → State → Prop := fun a st o t =>
  (Qc a st o t ∧ ∃ L, FrameEnd st o t L mc ms ∧ ∀ q ∈ L, free q.base) ∨ ∃ q, o = .threw q ∧ vx_T XC st q t mc ms free
/-- a callee that returns or throws -/
def vx_Met (l : Launch) (y : MethodName) (ws : List Cond) (rm : Room) (Pc : Array Value → State → Prop) (Qc : Array Value → State → Outcome → State → Prop) (XC : String → State → State → Prop) (mc ms : Nat) (free : Addr → Prop) : Prop :=
  MetFree l y (headSpec ws rm) Pc (fun _ _ _ _ _ => True) (vx_Q Qc XC mc ms free)
def vx_Post (XC : String → State → State → Prop) (mc ms : Nat) (free : Addr → Prop) : Pt → Array Value → Addr → Pt → Prop := fun A a q B =>
  ∃ (g : JFrame) (mk : MethodId) (t : State) (L : List Loc) (E : String) (ce : Cell), B.U.heap = t.heap ∧ B.U.vm = t.vm ∧ XC E (A.U.calling g mk a) t ∧ t.heap[q]? = some ce ∧ ce.vm = .none ∧ A.U.vm.findClass E = some ce.cls ∧ B.locs = A.locs ++ L ∧ (∀ z ∈ L, free z.base) ∧ B.cells = A.cells + mc ∧ B.slots = A.slots + ms
def vx_Back (l : Launch) (R : Room) (p : Program) (e : Env) (below : List Frame) (s : State) (sargs : Array Value) (y : MethodName) (len W9 : Nat)
    (Pre : Pt → Array Value → Prop) (Post : Pt → Array Value → Option Value → Pt → Prop) (PostX : Pt → Array Value → Addr → Pt → Prop) : Prop :=
  ∀ (m : MethodId) (meth : Method) (c : Code) (A : Pt) (g : JFrame) (ig : Instr) (mk : MethodId) (a : Array Value),
    Stand p l e R s m sargs below meth c A.U A.locs A.cells A.slots → g.method = m → g.locals.size = c.maxLocals → decode c.code g.pc = .ok (ig, len) →
    2 * g.monitorRoom + (g.stack.map fun v => v.category).sum ≤ W9 → A.U.methodNamed? y = some mk → Pre A a →
    (∃ (v : Option Value) (B : Pt), Stand p l e R s m sargs below meth c B.U B.locs B.cells B.slots ∧ Post A a v B ∧
      Steps p.tables e below (doInvoke e (A.U.setTop g) [] mk a).1 (B.U.setTop { g with pc := g.pc + len, stack := v.toList ++ g.stack })) ∨
    (∃ (q : Addr) (B : Pt), Stand p l e R s m sargs below meth c B.U B.locs B.cells B.slots ∧ PostX A a q B ∧
      Steps p.tables e below (doInvoke e (A.U.setTop g) [] mk a).1 ((B.U.setTop g).pushFrame (.throwing q)))
section Payer
variable {l : Launch} {R : Room} {p : Program} {e : Env} {below : List Frame} {s : State} {sargs : Array Value} {y : MethodName} {len W9 : Nat}
theorem vx_back {ws : List Cond} {rm : Room} {Pc : Array Value → State → Prop} {Qc : Array Value → State → Outcome → State → Prop} {XC : String → State → State → Prop} {mc ms : Nat} {free : Addr → Prop} {bytes : ByteArray} {maxL : Nat} {ret : Option FieldType}
    (hM : vx_Met l y ws rm Pc Qc XC mc ms free) (hblind : FrameBlind Pc) (hrc : rm.cells = mc) (hrs : rm.slots = ms)
    (hframes : rm.frames + 1 ≤ R.frames) (hlocals : W9 + (maxL + 11) + rm.locals ≤ R.locals)
    (hws : ∀ w ∈ ws, ∀ a' U, s.WarmedH U.vm → w.before a' U = true) (hcode : Cond.code y bytes maxL ret ∈ ws) (hinit : ∀ a' U, s.WarmedH U.vm → (Cond.initialized y.cls).before a' U = true) :
    vx_Back l R p e below s sargs y len W9 (PreOf R mc ms Pc) (PostOf Qc mc ms free) (vx_Post XC mc ms free) := by
  intro m meth c A g ig mk a X hg hsize hdg hW hn hp
  have h1 : (headSpec ws rm).pre.before a A.U = true := atoms_intro fun w hw => hws w hw _ _ X.warmed
  have h2 : (Cond.code y bytes maxL ret).before a A.U = true := hws _ hcode _ _ X.warmed
  have h3 : (Cond.initialized y.cls).before a A.U = true := hinit _ _ X.warmed
  have h4 : A.cells + (headSpec ws rm).room.cells ≤ R.cells := by rw [show (headSpec ws rm).room.cells = mc from hrc]; exact hp.1
  have h5 : A.slots + (headSpec ws rm).room.slots ≤ R.slots := by rw [show (headSpec ws rm).room.slots = ms from hrs]; exact hp.2.1
  have hPc : Pc a (A.U.calling g mk a) := hblind _ _ _ _ hp.2.2
  obtain ⟨U, Ls, c0, s0⟩ := A
  dsimp only [Pt.U, Pt.locs, Pt.cells, Pt.slots] at h1 h2 h3 h4 h5 X hn hPc ⊢
  obtain ⟨methY, cY, hmY, hcY, -, hlY, -, -, -, -⟩ := Cond.code_spec hn h2
  obtain ⟨kY, hkY, -⟩ := className_of_methodNamed hn
  have hinitY : kY.init = .initialized := Cond.initialized_spec (findClass_of_methodNamed hn) hkY h3
  have h : At U g.method c below := by rw [hg]; exact X.here
  have hlocals9 : W9 + (maxL + 11) + (headSpec ws rm).room.locals ≤ R.locals := hlocals
  have happ : (headSpec ws rm).appliesLoose y e.platform (U.calling g mk a) = true :=
    Spec.appliesLoose_calling (g := g) h hdg hn hkY hinitY
      (X.room_calling (g := g) (R' := (headSpec ws rm).room) hsize hmY hcY hframes (by rw [hlY]; omega) h4 h5) h1
  obtain ⟨mid, hmid⟩ := h.above
  have hfr : (U.setTop g).frames = (.java g :: mid) ++ below := by rw [State.frames_setTop' g h.top, hmid]; rfl
  obtain ⟨o, s₂, hsteps, -, hend, hq⟩ := Steps.callFree hM p X.admits X.cas X.clock (acts := []) hfr happ hPc trivial
  have hq' : vx_Q Qc XC mc ms free a (U.calling g mk a) o s₂ := hq
  rw [State.frames_setTop' g h.top] at hend
  obtain ⟨g₀, hg0⟩ := Option.isSome_iff_exists.mp h.top
  obtain ⟨r, hr⟩ := State.topJava?_eq_some.mp hg0
  have hr' : (({ U with heap := s₂.heap, slotsUsed := s₂.slotsUsed } : State).setVm s₂.vm).frames = .java g₀ :: r := hr
  rcases hq' with ⟨hqc, L, hfe, hL⟩ | ⟨q, rfl, E, ce, L, hx, hce, hcv, hcl, hW₂, hsm, hL⟩
  · obtain ⟨⟨v, rfl⟩, hW₂, e2, q2, q3, q4, q5, q6⟩ := id hfe
    have e3 : s₂ = ({ (U.calling g mk a).setFrames s₂.frames with heap := s₂.heap, slotsUsed := s₂.slotsUsed } : State).setVm s₂.vm := by
      have : s₂ = ({ s₂ with vm := (U.calling g mk a).vm } : State).setVm s₂.vm := rfl
      rw [e2] at this
      exact this
    obtain ⟨c₂, i₂, len₂, hc₂, hd₂, hf₂⟩ := hend
    have hW' : U.WarmedH s₂.vm := hW₂
    have hcc : c₂ = c := by
      have h1 : s₂.code? g.method = U.code? g.method := by
        rw [State.code?_eq, State.code?_eq, hW'.alike.method?]
      exact Option.some.inj (hc₂.symm.trans (h1.trans h.code))
    subst hcc
    have hlen : len₂ = len := by rw [hdg] at hd₂; cases hd₂; rfl
    subst hlen
    have hs₂ : s₂ = (({ U with heap := s₂.heap, slotsUsed := s₂.slotsUsed } : State).setVm s₂.vm).setTop { g with pc := g.pc + len₂, stack := v.toList ++ g.stack } := by
      refine e3.trans ?_
      rw [hf₂, State.calling_eq h.top, State.setFrames_setFrames, State.setTop_of_frames _ hr', hr]
      rfl
    have hsame : U.sameButNew ({ U with heap := s₂.heap, slotsUsed := s₂.slotsUsed } : State) L mc ms := by
      refine ⟨?_, q2, q3, q4, q5, q6⟩
      obtain ⟨t, ht, -⟩ := State.frames_cons hr
      show ({ U with heap := s₂.heap, slotsUsed := s₂.slotsUsed } : State) = { U.setFrames U.frames with heap := s₂.heap, slotsUsed := s₂.slotsUsed }
      rw [State.setFrames_self ht]
    subst hg
    refine Or.inl ⟨v, ⟨(({ U with heap := s₂.heap, slotsUsed := s₂.slotsUsed } : State).setVm s₂.vm), Ls ++ L, c0 + mc, s0 + ms⟩,
      ⟨X.admits, X.cas, X.clock, X.frames, X.room, X.hears, X.method, X.code, (X.here.setHeapUsed s₂.heap s₂.slotsUsed).setVm hW'.alike, X.tail, State.WarmedH.trans X.warmed hW', X.limits, X.bytes, X.same.trans (hsame.setVm s.vm)⟩,
      ⟨g, mk, s₂, L, rfl, rfl, hqc, rfl, hL, rfl, rfl⟩, ?_⟩
    show Steps p.tables e below _ ((({ U with heap := s₂.heap, slotsUsed := s₂.slotsUsed } : State).setVm s₂.vm).setTop { g with pc := g.pc + len₂, stack := v.toList ++ g.stack })
    rw [← hs₂]
    exact hsteps
  · obtain ⟨e2, q2, q3, q4, q5, q6⟩ := id hsm
    have e3 : s₂ = ({ (U.calling g mk a).setFrames s₂.frames with heap := s₂.heap, slotsUsed := s₂.slotsUsed } : State).setVm s₂.vm := by
      have : s₂ = ({ s₂ with vm := (U.calling g mk a).vm } : State).setVm s₂.vm := rfl
      rw [e2] at this
      exact this
    have hf₂ : s₂.frames = .throwing q :: .java g :: U.frames.tail := hend
    have hW' : U.WarmedH s₂.vm := hW₂
    have hs₂ : s₂ = ((({ U with heap := s₂.heap, slotsUsed := s₂.slotsUsed } : State).setVm s₂.vm).setTop g).pushFrame (.throwing q) := by
      refine e3.trans ?_
      rw [hf₂, State.calling_eq h.top, State.setFrames_setFrames, State.pushFrame, State.frames_setTop _ hr', State.setTop_of_frames _ hr', State.setFrames_setFrames, hr]
      rfl
    have hsame : U.sameButNew ({ U with heap := s₂.heap, slotsUsed := s₂.slotsUsed } : State) L mc ms := by
      refine ⟨?_, q2, q3, q4, q5, q6⟩
      obtain ⟨t, ht, -⟩ := State.frames_cons hr
      show ({ U with heap := s₂.heap, slotsUsed := s₂.slotsUsed } : State) = { U.setFrames U.frames with heap := s₂.heap, slotsUsed := s₂.slotsUsed }
      rw [State.setFrames_self ht]
    subst hg
    refine Or.inr ⟨q, ⟨(({ U with heap := s₂.heap, slotsUsed := s₂.slotsUsed } : State).setVm s₂.vm), Ls ++ L, c0 + mc, s0 + ms⟩,
      ⟨X.admits, X.cas, X.clock, X.frames, X.room, X.hears, X.method, X.code, (X.here.setHeapUsed s₂.heap s₂.slotsUsed).setVm hW'.alike, X.tail, State.WarmedH.trans X.warmed hW', X.limits, X.bytes, X.same.trans (hsame.setVm s.vm)⟩,
      ⟨g, mk, s₂, L, E, ce, rfl, rfl, hx, hce, hcv, hcl, rfl, hL, rfl, rfl⟩, ?_⟩
    show Steps p.tables e below _ (((({ U with heap := s₂.heap, slotsUsed := s₂.slotsUsed } : State).setVm s₂.vm).setTop g).pushFrame (.throwing q))
    rw [← hs₂]
    exact hsteps
end Payer
section Calls
variable {p : Program} {l : Launch} {e : Env} {R : Room} {s : State} {m : MethodId} {args : Array Value} {below : List Frame} {meth : Method} {c : Code} {T : State} {locs : List Loc} {cells slots : Nat}
theorem vx_callV (X : Stand p l e R s m args below meth c T locs cells slots) (hexec : p.tables.exec = Jvm.exec) {own C : String} {index : Nat} {y : MethodName} {bytes : ByteArray} {maxL : Nat} {ret : Option FieldType}
    (hown : s.vm.findClass own = some m.cls) (hlink : (Cond.methodLink own index y).before args s = true) (hinst : (Cond.instanceMethod y).before args s = true) (hsel : (Cond.selects C y y).before args s = true)
    (hcode : (Cond.code y bytes maxL ret).before args s = true) (hy : y.cls ≠ "java/lang/invoke/MethodHandle" ∧ y.cls ≠ "java/lang/invoke/VarHandle")
    {W9 : Nat} {Pre : Pt → Array Value → Prop} {Post : Pt → Array Value → Option Value → Pt → Prop} {PostX : Pt → Array Value → Addr → Pt → Prop} (hK : vx_Back l R p e below s args y 3 W9 Pre Post PostX)
    {b : Addr} {cellB : Cell} (hcell : T.heap[b]? = some cellB) (hobj : cellB.vm.isStatics = false) (hcls : s.vm.findClass C = some cellB.cls)
    {g : JFrame} (hg : g.method = m) (hsize : g.locals.size = c.maxLocals) {argsL rest : List Value} (hlen : ∀ sig, parseMethodDescriptor y.desc = some sig → argsL.length = sig.parameters.length)
    (hstack : g.stack = argsL.reverse ++ .ref b :: rest) (hW : 2 * g.monitorRoom + (rest.map fun v => v.category).sum ≤ W9) (hdg : decode c.code g.pc = .ok (.invokevirtual index, 3))
    (hpre : ∀ vm₁, s.WarmedH vm₁ → Pre ⟨T.setVm vm₁, locs, cells, slots⟩ (Value.ref b :: argsL).toArray) :
    (∃ (v : Option Value) (vm₁ : Vm) (B : Pt), s.WarmedH vm₁ ∧ Stand p l e R s m args below meth c B.U B.locs B.cells B.slots ∧ Post ⟨T.setVm vm₁, locs, cells, slots⟩ (Value.ref b :: argsL).toArray v B ∧
      ∀ target, Steps p.tables e below (B.U.setTop { g with pc := g.pc + 3, stack := v.toList ++ rest }) target → Steps p.tables e below (T.setTop g) target) ∨
    (∃ (q : Addr) (vm₁ : Vm) (B : Pt), s.WarmedH vm₁ ∧ Stand p l e R s m args below meth c B.U B.locs B.cells B.slots ∧ PostX ⟨T.setVm vm₁, locs, cells, slots⟩ (Value.ref b :: argsL).toArray q B ∧
      Steps p.tables e below (T.setTop g) ((B.U.setTop { g with stack := rest }).pushFrame (.throwing q))) := by
  obtain ⟨mk, methM, hnamed, hmethM, hstM, habM⟩ := Cond.instanceMethod_spec hinst
  obtain ⟨methM', cM, hmethM', -, -, -, -, -, -, hsigM⟩ := Cond.code_spec hnamed hcode
  cases hmethM.symm.trans hmethM'
  obtain ⟨c2, r2, m2, q1, q2, q3, q4, kP, hkP, hkPi⟩ := Cond.selects_spec hsel
  cases hcls.symm.trans q1
  cases (State.methodFound?_of_named hnamed hy).symm.trans q2
  cases hnamed.symm.trans q3
  have hselP : selectMethod e.platform s.vm cellB.cls mk = .method mk := by rw [Launch.admits_selectMethod X.admits]; exact q4
  obtain ⟨vm₁, X₁, hstep₁⟩ := X.invokevirtual hexec hown hlink hnamed hmethM hstM hkP hkPi hy (a := b) (cell := cellB) hcell
    (fun z h => by rw [h] at hobj; cases hobj) hselP hmethM habM hkP hkPi (g := g) hg (argsL := argsL) (rest := rest) (hlen _ hsigM) hstack hdg
  rcases hK m meth c ⟨T.setVm vm₁, locs, cells, slots⟩ { g with stack := rest } (.invokevirtual index) mk (Value.ref b :: argsL).toArray X₁ hg hsize hdg hW (X₁.named hnamed) (hpre vm₁ X₁.warmed) with ⟨v, B, X', hpost, hsteps⟩ | ⟨q, B, X', hpost, hsteps⟩
  · exact Or.inl ⟨v, vm₁, B, X₁.warmed, X', hpost, fun target h => hstep₁ _ fun acts => by rw [doInvoke_state]; exact hsteps.trans h⟩
  · exact Or.inr ⟨q, vm₁, B, X₁.warmed, X', hpost, hstep₁ _ fun acts => by rw [doInvoke_state]; exact hsteps⟩
theorem vx_callS (X : Stand p l e R s m args below meth c T locs cells slots) (hexec : p.tables.exec = Jvm.exec) {own : String} {index : Nat} {y : MethodName} {bytes : ByteArray} {maxL : Nat} {ret : Option FieldType}
    (hown : s.vm.findClass own = some m.cls) (hlink : (Cond.methodLink own index y).before args s = true) (hstat : (Cond.static y).before args s = true) (hinit : (Cond.initialized y.cls).before args s = true)
    (hcode : (Cond.code y bytes maxL ret).before args s = true) (hy : y.cls ≠ "java/lang/invoke/MethodHandle" ∧ y.cls ≠ "java/lang/invoke/VarHandle")
    {W9 : Nat} {Pre : Pt → Array Value → Prop} {Post : Pt → Array Value → Option Value → Pt → Prop} {PostX : Pt → Array Value → Addr → Pt → Prop} (hK : vx_Back l R p e below s args y 3 W9 Pre Post PostX)
    {g : JFrame} (hg : g.method = m) (hsize : g.locals.size = c.maxLocals) {argsL rest : List Value} (hlen : ∀ sig, parseMethodDescriptor y.desc = some sig → argsL.length = sig.parameters.length)
    (hstack : g.stack = argsL.reverse ++ rest) (hW : 2 * g.monitorRoom + (rest.map fun v => v.category).sum ≤ W9) (hdg : decode c.code g.pc = .ok (.invokestatic index, 3))
    (hpre : ∀ vm₁, s.WarmedH vm₁ → Pre ⟨T.setVm vm₁, locs, cells, slots⟩ argsL.toArray) :
    (∃ (v : Option Value) (vm₁ : Vm) (B : Pt), s.WarmedH vm₁ ∧ Stand p l e R s m args below meth c B.U B.locs B.cells B.slots ∧ Post ⟨T.setVm vm₁, locs, cells, slots⟩ argsL.toArray v B ∧
      ∀ target, Steps p.tables e below (B.U.setTop { g with pc := g.pc + 3, stack := v.toList ++ rest }) target → Steps p.tables e below (T.setTop g) target) ∨
    (∃ (q : Addr) (vm₁ : Vm) (B : Pt), s.WarmedH vm₁ ∧ Stand p l e R s m args below meth c B.U B.locs B.cells B.slots ∧ PostX ⟨T.setVm vm₁, locs, cells, slots⟩ argsL.toArray q B ∧
      Steps p.tables e below (T.setTop g) ((B.U.setTop { g with stack := rest }).pushFrame (.throwing q))) := by
  obtain ⟨mk, hnamed⟩ := Cond.code_named hcode
  obtain ⟨methM, cM, hmethM, -, -, -, -, -, -, hsigM⟩ := Cond.code_spec hnamed hcode
  have hstatic : methM.isStatic = true := Cond.static_spec hnamed hmethM hstat
  obtain ⟨kP, hkP, -⟩ := className_of_methodNamed hnamed
  have hinitP : kP.init = .initialized := Cond.initialized_spec (findClass_of_methodNamed hnamed) hkP hinit
  obtain ⟨vm₁, X₁, hstep₁⟩ := X.invokestatic hexec hown hlink hnamed hmethM hstatic hkP hinitP hy (g := g) hg (argsL := argsL) (rest := rest) (hlen _ hsigM) hstack hdg
  rcases hK m meth c ⟨T.setVm vm₁, locs, cells, slots⟩ { g with stack := rest } (.invokestatic index) mk argsL.toArray X₁ hg hsize hdg hW (X₁.named hnamed) (hpre vm₁ X₁.warmed) with ⟨v, B, X', hpost, hsteps⟩ | ⟨q, B, X', hpost, hsteps⟩
  · exact Or.inl ⟨v, vm₁, B, X₁.warmed, X', hpost, fun target h => hstep₁ _ fun acts => by rw [doInvoke_state]; exact hsteps.trans h⟩
  · exact Or.inr ⟨q, vm₁, B, X₁.warmed, X', hpost, hstep₁ _ fun acts => by rw [doInvoke_state]; exact hsteps⟩
end Calls
theorem vx_cls {s : State} {T : State} {vm₁ : Vm} {E : String} {k : ClassId} (hW : s.WarmedH vm₁) (h : (T.setVm vm₁).vm.findClass E = some k) : s.vm.findClass E = some k := by
  have h1 : vm₁.findClass E = some k := h
  rw [hW.alike.findClass] at h1
  exact h1
/-- the method's frame g, with q thrown over it -/
def vx_W (p : Program) (l : Launch) (e : Env) (R : Room) (s : State) (m : MethodId) (args : Array Value) (below : List Frame) (meth : Method) (c : Code) (H : Heap) (locs : List Loc) (cells slots : Nat) (Q : State → Prop) (g : JFrame) (q : Addr) : Prop :=
  ∀ T : State, T.heap = H → Stand p l e R s m args below meth c T locs cells slots → ∃ t, Steps p.tables e below ((T.setTop g).pushFrame (.throwing q)) t ∧ Q t
def vx_Run (p : Program) (l : Launch) (e : Env) (R : Room) (s : State) (m : MethodId) (args : Array Value) (below : List Frame) (meth : Method) (c : Code) (H : Heap) (locs : List Loc) (cells slots mc ms : Nat) (g : JFrame) (rest : List Value) (Qa : State → Outcome → State → Prop) (XC : String → State → State → Prop) (free : Addr → Prop) : Prop :=
  ∀ T : State, T.heap = H → Stand p l e R s m args below meth c T locs cells slots →
    (∃ (v : Option Value) (st₀ t T' : State) (L : List Loc), st₀.heap = H ∧ Stand p l e R s m args below meth c T' (locs ++ L) (cells + mc) (slots + ms) ∧ (∀ q ∈ L, free q.base) ∧ T'.heap = t.heap ∧ T'.vm = t.vm ∧ Qa st₀ (.returned v) t ∧
      Goes p e below T g T' { g with pc := g.pc + 3, stack := v.toList ++ rest }) ∨
    (∃ (q : Addr) (st₀ t T' : State) (L : List Loc) (E : String) (ce : Cell), st₀.heap = H ∧ Stand p l e R s m args below meth c T' (locs ++ L) (cells + mc) (slots + ms) ∧ (∀ z ∈ L, free z.base) ∧ T'.heap = t.heap ∧ T'.vm = t.vm ∧ XC E st₀ t ∧ t.heap[q]? = some ce ∧ ce.vm = .none ∧ s.vm.findClass E = some ce.cls ∧
      Steps p.tables e below (T.setTop g) ((T'.setTop { g with stack := rest }).pushFrame (.throwing q)))
def vx_X {S : Type} (px : S → Prop) (B : String → S → State → Prop) (A : Nat → Prop) : String → State → State → Prop := fun E st t => ∃ u : S, px u ∧ B E u t ∧ va_F A st t
section Runs
variable {p : Program} {l : Launch} {e : Env} {R : Room} {s : State} {m : MethodId} {args : Array Value} {below : List Frame} {meth : Method} {c : Code} {H : Heap} {locs : List Loc} {cells slots : Nat}
variable {y : MethodName} {bytes cc : ByteArray} {maxL nL mc ms n index : Nat} {ret : Option FieldType} {ws : List Cond} {rm : Room} {Pc : Array Value → State → Prop} {Qc : Array Value → State → Outcome → State → Prop} {XC : String → State → State → Prop} {free : Addr → Prop} {Ts : List Cond} {own C : String} {b : Addr} {As rest : List Value} {g : JFrame}
theorem vx_callBack (cb : CallB R s args own index y bytes maxL ret ws rm mc ms n) (hM : vx_Met l y ws rm Pc Qc XC mc ms free) (hbl : FrameBlind Pc) : vx_Back l R p e below s args y 3 8 (PreOf R mc ms Pc) (PostOf Qc mc ms free) (vx_Post XC mc ms free) := by
  obtain ⟨hrc, hrs, hfr, hlo, hws, hcw, -, hini, -⟩ := cb
  exact vx_back (bytes := bytes) (maxL := maxL) (ret := ret) hM hbl hrc hrs hfr hlo hws hcw (fun a' U hW => word_at hW (Or.inl (by first | rfl | simp [Cond.onTables, Cond.keeps, Cond.steady])) hini)
theorem vx_runV (S : CallFix p m c cc nL s args Ts own) (hM : vx_Met l y ws rm Pc Qc XC mc ms free) (cw : CallW R s args own C index y bytes maxL ret ws rm mc ms n) (hp : PreV s H C b Pc As)
    (hg : g.method = m) (hn : As.length = n) (hsize : g.locals.size = nL) (hstack : g.stack = As.reverse ++ .ref b :: rest) (hW : 2 * g.monitorRoom + (rest.map fun v => v.category).sum ≤ 8) (hdg : decode cc g.pc = .ok (.invokevirtual index, 3)) (hf : cells + mc ≤ R.cells ∧ slots + ms ≤ R.slots) :
    vx_Run p l e R s m args below meth c H locs cells slots mc ms g rest (Qc (Value.ref b :: As).toArray) XC free := by
  have hK : vx_Back l R p e below s args y 3 8 (PreOf R mc ms Pc) (PostOf Qc mc ms free) (vx_Post XC mc ms free) := vx_callBack cw.1 hM hp.1
  obtain ⟨⟨-, -, -, -, -, -, hcode, -, hy, hlen, hl⟩, hin, hse⟩ := cw
  obtain ⟨hx, hb, hml, ho, -⟩ := S
  obtain ⟨-, ⟨cellB, hcB, hoB, hclB⟩, hPc⟩ := hp
  intro T hT X
  rcases vx_callV X hx (C := C) (bytes := bytes) (maxL := maxL) (ret := ret) ho hl hin hse hcode hy hK (by rw [hT]; exact hcB) hoB hclB hg (hsize.trans hml.symm) (argsL := As) (rest := rest) (fun sig h => hn.trans (hlen sig h)) hstack hW (by rw [hb]; exact hdg)
    (fun vm₁ hW₁ => ⟨hf.1, hf.2, hPc (T.setVm vm₁) hT hW₁⟩) with ⟨v, vm₁, ⟨U', l2, c2, s2⟩, hW₁, X', ⟨g', mk, t, L, e1, e2, hq, h1, hL, h2, h3⟩, st⟩ | ⟨q, vm₁, ⟨U', l2, c2, s2⟩, hW₁, X', ⟨g', mk, t, L, E, ce, e1, e2, hq, hce, hcv, hcl, h1, hL, h2, h3⟩, st⟩
  · dsimp only [Pt.U, Pt.locs, Pt.cells, Pt.slots] at X' e1 e2 h1 h2 h3 st
    subst h1; subst h2; subst h3
    exact Or.inl ⟨v, (T.setVm vm₁).calling g' mk (Value.ref b :: As).toArray, t, U', L, hT, X', hL, e1, e2, hq, st⟩
  · dsimp only [Pt.U, Pt.locs, Pt.cells, Pt.slots] at X' e1 e2 h1 h2 h3 st hcl
    subst h1; subst h2; subst h3
    exact Or.inr ⟨q, (T.setVm vm₁).calling g' mk (Value.ref b :: As).toArray, t, U', L, E, ce, hT, X', hL, e1, e2, hq, hce, hcv, vx_cls hW₁ hcl, st⟩
theorem vx_runS (S : CallFix p m c cc nL s args Ts own) (hM : vx_Met l y ws rm Pc Qc XC mc ms free) (cw : CallB R s args own index y bytes maxL ret ws rm mc ms n ∧ (Cond.static y).before args s = true) (hp : PreS s H Pc As)
    (hg : g.method = m) (hn : As.length = n) (hsize : g.locals.size = nL) (hstack : g.stack = As.reverse ++ rest) (hW : 2 * g.monitorRoom + (rest.map fun v => v.category).sum ≤ 8) (hdg : decode cc g.pc = .ok (.invokestatic index, 3)) (hf : cells + mc ≤ R.cells ∧ slots + ms ≤ R.slots) :
    vx_Run p l e R s m args below meth c H locs cells slots mc ms g rest (Qc As.toArray) XC free := by
  have hK : vx_Back l R p e below s args y 3 8 (PreOf R mc ms Pc) (PostOf Qc mc ms free) (vx_Post XC mc ms free) := vx_callBack cw.1 hM hp.1
  obtain ⟨⟨-, -, -, -, -, -, hcode, hini, hy, hlen, hl⟩, hstt⟩ := cw
  obtain ⟨hx, hb, hml, ho, -⟩ := S
  intro T hT X
  rcases vx_callS X hx (bytes := bytes) (maxL := maxL) (ret := ret) ho hl hstt hini hcode hy hK hg (hsize.trans hml.symm) (argsL := As) (rest := rest) (fun sig h => hn.trans (hlen sig h)) hstack hW (by rw [hb]; exact hdg)
    (fun vm₁ hW₁ => ⟨hf.1, hf.2, hp.2 (T.setVm vm₁) hT hW₁⟩) with ⟨v, vm₁, ⟨U', l2, c2, s2⟩, hW₁, X', ⟨g', mk, t, L, e1, e2, hq, h1, hL, h2, h3⟩, st⟩ | ⟨q, vm₁, ⟨U', l2, c2, s2⟩, hW₁, X', ⟨g', mk, t, L, E, ce, e1, e2, hq, hce, hcv, hcl, h1, hL, h2, h3⟩, st⟩
  · dsimp only [Pt.U, Pt.locs, Pt.cells, Pt.slots] at X' e1 e2 h1 h2 h3 st
    subst h1; subst h2; subst h3
    exact Or.inl ⟨v, (T.setVm vm₁).calling g' mk As.toArray, t, U', L, hT, X', hL, e1, e2, hq, st⟩
  · dsimp only [Pt.U, Pt.locs, Pt.cells, Pt.slots] at X' e1 e2 h1 h2 h3 st hcl
    subst h1; subst h2; subst h3
    exact Or.inr ⟨q, (T.setVm vm₁).calling g' mk As.toArray, t, U', L, E, ce, hT, X', hL, e1, e2, hq, hce, hcv, vx_cls hW₁ hcl, st⟩
end Runs
section Rows
variable {p : Program} {l : Launch} {e : Env} {R : Room} {s : State} {m : MethodId} {args : Array Value} {below : List Frame} {meth : Method} {c : Code} {H : Heap} {locs : List Loc} {cells slots : Nat} {Q : State → Prop}
variable {mc ms : Nat} {free : Addr → Prop} {A0 A1 : Nat → Prop} {H0 : Heap} {a : Array Value} {pc : Nat} {ls : Array Slot} {st0 rest : List Value}
theorem vx_keep {st₀ t T' : State} {L : List Loc} (h0 : st₀.heap = H) (e1 : T'.heap = t.heap) (hS : va_S A0 H0 H locs) (hA : ∀ q, q < H.size → A1 q → A0 q) (hf : ∀ q, free q → A0 q) (hL : ∀ q ∈ L, free q.base) (hF : va_F A1 st₀ t) :
    H.size ≤ T'.heap.size ∧ (∀ q : Nat, q < H.size → ¬ A1 q → T'.heap[q]? = H[q]?) ∧ va_S A0 H0 T'.heap (locs ++ L) := by
  obtain ⟨hz, hk⟩ := hF
  rw [h0] at hz hk
  exact ⟨by rw [e1]; exact hz, fun q h1 h2 => by rw [e1]; exact hk q h1 h2,
    ⟨Nat.le_trans hS.1 (by rw [e1]; exact hz), fun q h1 h2 => by rw [e1, hk q (Nat.lt_of_lt_of_le h1 hS.1) (fun z => h2 (hA q (Nat.lt_of_lt_of_le h1 hS.1) z))]; exact hS.2.1 q h1 h2, fun q hq => by
      rcases List.mem_append.mp hq with h | h
      · exact hS.2.2 q h
      · exact hf _ (hL q h)⟩⟩
theorem vx_calli {S SX : Type} {post : Int32 → S → Prop} {px : SX → Prop} {B : S → State → Prop} {BX : String → SX → State → Prop} {AX : Nat → Prop} (hr : vx_Run p l e R s m args below meth c H locs cells slots mc ms (F0 m pc ls st0) rest (va_Qi post B A1 a) (vx_X px BX AX) free) (hS : va_S A0 H0 H locs) (hA : ∀ q, q < H.size → A1 q → A0 q) (hf : ∀ q, free q → A0 q) (hAX : ∀ q, q < H.size → AX q → A0 q)
    (kx : ∀ (E : String) (ce : Cell) (q9 : Addr) (u : SX) (t : State) (H1 : Heap) (locs1 : List Loc), t.heap = H1 → s.vm.Alike t.vm → px u → BX E u t → H.size ≤ H1.size → (∀ q : Nat, q < H.size → ¬ AX q → H1[q]? = H[q]?) → va_S A0 H0 H1 locs1 → H1[q9]? = some ce → ce.vm = .none → s.vm.findClass E = some ce.cls → vx_W p l e R s m args below meth c H1 locs1 (cells + mc) (slots + ms) Q (F0 m pc ls rest) q9)
    (kk : ∀ (r : Int32) (u : S) (t : State) (H1 : Heap) (locs1 : List Loc), t.heap = H1 → s.vm.Alike t.vm → post r u → B u t → H.size ≤ H1.size → (∀ q : Nat, q < H.size → ¬ A1 q → H1[q]? = H[q]?) → va_S A0 H0 H1 locs1 → W p l e R s m args below meth c H1 locs1 (cells + mc) (slots + ms) Q (F0 m (pc + 3) ls (.int r :: rest))) : W p l e R s m args below meth c H locs cells slots Q (F0 m pc ls st0) := by
  intro T hT X
  rcases hr T hT X with ⟨v, st₀, t, T', L, h0, X', hL, e1, e2, ⟨⟨r, u, hv, hp, hb⟩, hF⟩, st⟩ | ⟨q, st₀, t, T', L, E, ce, h0, X', hL, e1, e2, ⟨u, hp, hb, hF⟩, hce, hcv, hcl, st⟩
  · cases hv
    obtain ⟨k1, k2, k3⟩ := vx_keep h0 e1 hS hA hf hL hF
    obtain ⟨t2, a1, b1⟩ := kk r u t T'.heap (locs ++ L) e1.symm (by rw [← e2]; exact X'.warmed.alike) hp hb k1 k2 k3 T' rfl X'
    exact ⟨t2, st t2 a1, b1⟩
  · obtain ⟨k1, k2, k3⟩ := vx_keep h0 e1 hS hAX hf hL hF
    obtain ⟨t2, a1, b1⟩ := kx E ce q u t T'.heap (locs ++ L) e1.symm (by rw [← e2]; exact X'.warmed.alike) hp hb k1 k2 k3 (by rw [e1]; exact hce) hcv hcl T' rfl X'
    exact ⟨t2, st.trans a1, b1⟩
theorem vx_calll {S SX : Type} {post : Int64 → S → Prop} {px : SX → Prop} {B : S → State → Prop} {BX : String → SX → State → Prop} {AX : Nat → Prop} (hr : vx_Run p l e R s m args below meth c H locs cells slots mc ms (F0 m pc ls st0) rest (va_Ql post B A1 a) (vx_X px BX AX) free) (hS : va_S A0 H0 H locs) (hA : ∀ q, q < H.size → A1 q → A0 q) (hf : ∀ q, free q → A0 q) (hAX : ∀ q, q < H.size → AX q → A0 q)
    (kx : ∀ (E : String) (ce : Cell) (q9 : Addr) (u : SX) (t : State) (H1 : Heap) (locs1 : List Loc), t.heap = H1 → s.vm.Alike t.vm → px u → BX E u t → H.size ≤ H1.size → (∀ q : Nat, q < H.size → ¬ AX q → H1[q]? = H[q]?) → va_S A0 H0 H1 locs1 → H1[q9]? = some ce → ce.vm = .none → s.vm.findClass E = some ce.cls → vx_W p l e R s m args below meth c H1 locs1 (cells + mc) (slots + ms) Q (F0 m pc ls rest) q9)
    (kk : ∀ (r : Int64) (u : S) (t : State) (H1 : Heap) (locs1 : List Loc), t.heap = H1 → s.vm.Alike t.vm → post r u → B u t → H.size ≤ H1.size → (∀ q : Nat, q < H.size → ¬ A1 q → H1[q]? = H[q]?) → va_S A0 H0 H1 locs1 → W p l e R s m args below meth c H1 locs1 (cells + mc) (slots + ms) Q (F0 m (pc + 3) ls (.long r :: rest))) : W p l e R s m args below meth c H locs cells slots Q (F0 m pc ls st0) := by
  intro T hT X
  rcases hr T hT X with ⟨v, st₀, t, T', L, h0, X', hL, e1, e2, ⟨⟨r, u, hv, hp, hb⟩, hF⟩, st⟩ | ⟨q, st₀, t, T', L, E, ce, h0, X', hL, e1, e2, ⟨u, hp, hb, hF⟩, hce, hcv, hcl, st⟩
  · cases hv
    obtain ⟨k1, k2, k3⟩ := vx_keep h0 e1 hS hA hf hL hF
    obtain ⟨t2, a1, b1⟩ := kk r u t T'.heap (locs ++ L) e1.symm (by rw [← e2]; exact X'.warmed.alike) hp hb k1 k2 k3 T' rfl X'
    exact ⟨t2, st t2 a1, b1⟩
  · obtain ⟨k1, k2, k3⟩ := vx_keep h0 e1 hS hAX hf hL hF
    obtain ⟨t2, a1, b1⟩ := kx E ce q u t T'.heap (locs ++ L) e1.symm (by rw [← e2]; exact X'.warmed.alike) hp hb k1 k2 k3 (by rw [e1]; exact hce) hcv hcl T' rfl X'
    exact ⟨t2, st.trans a1, b1⟩
theorem vx_callf {S SX : Type} {post : UInt32 → S → Prop} {px : SX → Prop} {B : S → State → Prop} {BX : String → SX → State → Prop} {AX : Nat → Prop} (hr : vx_Run p l e R s m args below meth c H locs cells slots mc ms (F0 m pc ls st0) rest (va_Qf post B A1 a) (vx_X px BX AX) free) (hS : va_S A0 H0 H locs) (hA : ∀ q, q < H.size → A1 q → A0 q) (hf : ∀ q, free q → A0 q) (hAX : ∀ q, q < H.size → AX q → A0 q)
    (kx : ∀ (E : String) (ce : Cell) (q9 : Addr) (u : SX) (t : State) (H1 : Heap) (locs1 : List Loc), t.heap = H1 → s.vm.Alike t.vm → px u → BX E u t → H.size ≤ H1.size → (∀ q : Nat, q < H.size → ¬ AX q → H1[q]? = H[q]?) → va_S A0 H0 H1 locs1 → H1[q9]? = some ce → ce.vm = .none → s.vm.findClass E = some ce.cls → vx_W p l e R s m args below meth c H1 locs1 (cells + mc) (slots + ms) Q (F0 m pc ls rest) q9)
    (kk : ∀ (r : UInt32) (u : S) (t : State) (H1 : Heap) (locs1 : List Loc), t.heap = H1 → s.vm.Alike t.vm → post r u → B u t → H.size ≤ H1.size → (∀ q : Nat, q < H.size → ¬ A1 q → H1[q]? = H[q]?) → va_S A0 H0 H1 locs1 → W p l e R s m args below meth c H1 locs1 (cells + mc) (slots + ms) Q (F0 m (pc + 3) ls (.float r :: rest))) : W p l e R s m args below meth c H locs cells slots Q (F0 m pc ls st0) := by
  intro T hT X
  rcases hr T hT X with ⟨v, st₀, t, T', L, h0, X', hL, e1, e2, ⟨⟨r, u, hv, hp, hb⟩, hF⟩, st⟩ | ⟨q, st₀, t, T', L, E, ce, h0, X', hL, e1, e2, ⟨u, hp, hb, hF⟩, hce, hcv, hcl, st⟩
  · cases hv
    obtain ⟨k1, k2, k3⟩ := vx_keep h0 e1 hS hA hf hL hF
    obtain ⟨t2, a1, b1⟩ := kk r u t T'.heap (locs ++ L) e1.symm (by rw [← e2]; exact X'.warmed.alike) hp hb k1 k2 k3 T' rfl X'
    exact ⟨t2, st t2 a1, b1⟩
  · obtain ⟨k1, k2, k3⟩ := vx_keep h0 e1 hS hAX hf hL hF
    obtain ⟨t2, a1, b1⟩ := kx E ce q u t T'.heap (locs ++ L) e1.symm (by rw [← e2]; exact X'.warmed.alike) hp hb k1 k2 k3 (by rw [e1]; exact hce) hcv hcl T' rfl X'
    exact ⟨t2, st.trans a1, b1⟩
theorem vx_calld {S SX : Type} {post : UInt64 → S → Prop} {px : SX → Prop} {B : S → State → Prop} {BX : String → SX → State → Prop} {AX : Nat → Prop} (hr : vx_Run p l e R s m args below meth c H locs cells slots mc ms (F0 m pc ls st0) rest (va_Qd post B A1 a) (vx_X px BX AX) free) (hS : va_S A0 H0 H locs) (hA : ∀ q, q < H.size → A1 q → A0 q) (hf : ∀ q, free q → A0 q) (hAX : ∀ q, q < H.size → AX q → A0 q)
    (kx : ∀ (E : String) (ce : Cell) (q9 : Addr) (u : SX) (t : State) (H1 : Heap) (locs1 : List Loc), t.heap = H1 → s.vm.Alike t.vm → px u → BX E u t → H.size ≤ H1.size → (∀ q : Nat, q < H.size → ¬ AX q → H1[q]? = H[q]?) → va_S A0 H0 H1 locs1 → H1[q9]? = some ce → ce.vm = .none → s.vm.findClass E = some ce.cls → vx_W p l e R s m args below meth c H1 locs1 (cells + mc) (slots + ms) Q (F0 m pc ls rest) q9)
    (kk : ∀ (r : UInt64) (u : S) (t : State) (H1 : Heap) (locs1 : List Loc), t.heap = H1 → s.vm.Alike t.vm → post r u → B u t → H.size ≤ H1.size → (∀ q : Nat, q < H.size → ¬ A1 q → H1[q]? = H[q]?) → va_S A0 H0 H1 locs1 → W p l e R s m args below meth c H1 locs1 (cells + mc) (slots + ms) Q (F0 m (pc + 3) ls (.double r :: rest))) : W p l e R s m args below meth c H locs cells slots Q (F0 m pc ls st0) := by
  intro T hT X
  rcases hr T hT X with ⟨v, st₀, t, T', L, h0, X', hL, e1, e2, ⟨⟨r, u, hv, hp, hb⟩, hF⟩, st⟩ | ⟨q, st₀, t, T', L, E, ce, h0, X', hL, e1, e2, ⟨u, hp, hb, hF⟩, hce, hcv, hcl, st⟩
  · cases hv
    obtain ⟨k1, k2, k3⟩ := vx_keep h0 e1 hS hA hf hL hF
    obtain ⟨t2, a1, b1⟩ := kk r u t T'.heap (locs ++ L) e1.symm (by rw [← e2]; exact X'.warmed.alike) hp hb k1 k2 k3 T' rfl X'
    exact ⟨t2, st t2 a1, b1⟩
  · obtain ⟨k1, k2, k3⟩ := vx_keep h0 e1 hS hAX hf hL hF
    obtain ⟨t2, a1, b1⟩ := kx E ce q u t T'.heap (locs ++ L) e1.symm (by rw [← e2]; exact X'.warmed.alike) hp hb k1 k2 k3 (by rw [e1]; exact hce) hcv hcl T' rfl X'
    exact ⟨t2, st.trans a1, b1⟩
theorem vx_callv {S SX : Type} {post : S → Prop} {px : SX → Prop} {B : S → State → Prop} {BX : String → SX → State → Prop} {AX : Nat → Prop} (hr : vx_Run p l e R s m args below meth c H locs cells slots mc ms (F0 m pc ls st0) rest (va_Qv post B A1 a) (vx_X px BX AX) free) (hS : va_S A0 H0 H locs) (hA : ∀ q, q < H.size → A1 q → A0 q) (hf : ∀ q, free q → A0 q) (hAX : ∀ q, q < H.size → AX q → A0 q)
    (kx : ∀ (E : String) (ce : Cell) (q9 : Addr) (u : SX) (t : State) (H1 : Heap) (locs1 : List Loc), t.heap = H1 → s.vm.Alike t.vm → px u → BX E u t → H.size ≤ H1.size → (∀ q : Nat, q < H.size → ¬ AX q → H1[q]? = H[q]?) → va_S A0 H0 H1 locs1 → H1[q9]? = some ce → ce.vm = .none → s.vm.findClass E = some ce.cls → vx_W p l e R s m args below meth c H1 locs1 (cells + mc) (slots + ms) Q (F0 m pc ls rest) q9)
    (kk : ∀ (u : S) (t : State) (H1 : Heap) (locs1 : List Loc), t.heap = H1 → s.vm.Alike t.vm → post u → B u t → H.size ≤ H1.size → (∀ q : Nat, q < H.size → ¬ A1 q → H1[q]? = H[q]?) → va_S A0 H0 H1 locs1 → W p l e R s m args below meth c H1 locs1 (cells + mc) (slots + ms) Q (F0 m (pc + 3) ls (rest))) : W p l e R s m args below meth c H locs cells slots Q (F0 m pc ls st0) := by
  intro T hT X
  rcases hr T hT X with ⟨v, st₀, t, T', L, h0, X', hL, e1, e2, ⟨⟨u, hv, hp, hb⟩, hF⟩, st⟩ | ⟨q, st₀, t, T', L, E, ce, h0, X', hL, e1, e2, ⟨u, hp, hb, hF⟩, hce, hcv, hcl, st⟩
  · cases hv
    obtain ⟨k1, k2, k3⟩ := vx_keep h0 e1 hS hA hf hL hF
    obtain ⟨t2, a1, b1⟩ := kk u t T'.heap (locs ++ L) e1.symm (by rw [← e2]; exact X'.warmed.alike) hp hb k1 k2 k3 T' rfl X'
    exact ⟨t2, st t2 a1, b1⟩
  · obtain ⟨k1, k2, k3⟩ := vx_keep h0 e1 hS hAX hf hL hF
    obtain ⟨t2, a1, b1⟩ := kx E ce q u t T'.heap (locs ++ L) e1.symm (by rw [← e2]; exact X'.warmed.alike) hp hb k1 k2 k3 (by rw [e1]; exact hce) hcv hcl T' rfl X'
    exact ⟨t2, st.trans a1, b1⟩
/-- caught by the row x of this method's table; the rows ahead don't take it -/
theorem vx_catch {own name : String} {E : String} {ce : Cell} {q : Addr} (hown : s.vm.findClass own = some m.cls) (pre : List ExceptionTableEntry) (x : ExceptionTableEntry) (suf : List ExceptionTableEntry) (hsplit : c.exceptionTable.toList = pre ++ x :: suf)
    (hpass : ∀ z ∈ pre, covers z pc = false ∨ (z.catchType ≠ 0 ∧ ∃ nm : String, (Cond.classLink own z.catchType nm).before args s = true ∧ va_Nc E nm s)) (hx : covers x pc = true) (h0 : x.catchType ≠ 0)
    (hlink : (Cond.classLink own x.catchType name).before args s = true) (hcast : (Cond.castable E name).before args s = true) (hcell : H[q]? = some ce) (hv : ce.vm = .none) (hcl : s.vm.findClass E = some ce.cls)
    (kk : W p l e R s m args below meth c H locs cells slots Q (F0 m x.handlerPc ls [.ref q])) : vx_W p l e R s m args below meth c H locs cells slots Q (F0 m pc ls rest) q := by
  intro T hT X
  have hpl : e.platform.magicAccessors = ({} : Platform).magicAccessors := by rw [X.admits.platform]
  obtain ⟨c3, c4, hc3, hc4, hasg⟩ := Cond.castable_spec hcast
  cases Option.some.inj (hc3.symm.trans hcl)
  obtain ⟨c5, hc5, hcl5⟩ := Cond.classLink_spec hown hlink e.platform hpl
  cases Option.some.inj (hc4.symm.trans hc5)
  obtain ⟨vm', X', st⟩ := X.thenCaughtThrough q (g := F0 m pc ls rest) rfl (Steps.refl _) (by rw [hT]; exact hcell) (by rw [hv]; rfl) (by obtain ⟨k9, h9, -⟩ := Vm.findClass_spec hcl; exact ⟨k9, h9⟩) pre x suf hsplit
    (fun z hz => by
      rcases hpass z hz with h | ⟨hz0, nm, hl1, hn1⟩
      · exact Or.inl h
      · obtain ⟨c6, hc6, hcl6⟩ := Cond.classLink_spec hown hl1 e.platform hpl
        obtain ⟨a8, b8, h1, h2, h3⟩ := hn1
        cases Option.some.inj (h1.symm.trans hcl)
        cases Option.some.inj (h2.symm.trans hc6)
        exact Or.inr ⟨hz0, _, hcl6, h3⟩) hx (Or.inr ⟨h0, c4, hcl5, hasg⟩)
  obtain ⟨t, a1, b1⟩ := kk (T.setVm vm') hT X'
  exact ⟨t, st.trans a1, b1⟩
end Rows
section Ends
variable {p : Program} {l : Launch} {e : Env} {R : Room} {s : State} {m : MethodId} {args : Array Value} {below : List Frame} {meth : Method} {c : Code} {H : Heap} {locs : List Loc} {cells slots : Nat} {Q : State → Prop}
variable {mc ms : Nat} {free : Addr → Prop} {A0 A1 : Nat → Prop} {H0 : Heap} {a : Array Value} {ls : Array Slot} {st0 rest : List Value}
variable {Qc : Array Value → State → Outcome → State → Prop} {XC : String → State → State → Prop}
/-- what a body that may throw owes at its end -/
def vx_MQ (below : List Frame) (Qc : Array Value → State → Outcome → State → Prop) (XC : String → State → State → Prop) (a : Array Value) (s : State) (mc ms : Nat) (free : Addr → Prop) : State → Prop := fun t =>
  ∃ o, t.status = .running ∧ Ended t below o ∧ vx_Q Qc XC mc ms free a s o t
theorem vx_ret {g : JFrame} {mc ms : Nat} (k : W p l e R s m args below meth c H locs cells slots (MQ below Qc args s mc ms free) g) : W p l e R s m args below meth c H locs cells slots (vx_MQ below Qc XC args s mc ms free) g := by
  intro T hT X
  obtain ⟨t, a1, o, b1, b2, b3, b4⟩ := k T hT X
  exact ⟨t, a1, o, b1, b2, Or.inl ⟨b3, b4⟩⟩
/-- not caught here: it goes on to the caller -/
theorem vx_widen {g : JFrame} {q : Addr} {k n : Nat} (h1 : cells ≤ k) (h2 : slots ≤ n) (kk : vx_W p l e R s m args below meth c H locs k n Q g q) : vx_W p l e R s m args below meth c H locs cells slots Q g q := fun T hT X => kk T hT (stand_widen X h1 h2)
theorem vx_out {pc : Nat} {E : String} {ce : Cell} {q : Addr} {mc ms : Nat} (hout : ∀ x ∈ c.exceptionTable.toList, covers x pc = false) (hlocks : meth.locks = false) (hcell : H[q]? = some ce) (hv : ce.vm = .none) (hcl : s.vm.findClass E = some ce.cls)
    (hx : ∀ t : State, t.heap = H → s.vm.Alike t.vm → XC E s t) (hf : ∀ z ∈ locs, free z.base) (hc : cells ≤ mc) (hs : slots ≤ ms) :
    vx_W p l e R s m args below meth c H locs cells slots (vx_MQ below Qc XC args s mc ms free) (F0 m pc ls rest) q := by
  intro T hT X
  obtain ⟨st1, hrun, hend, hW, hsm⟩ := X.leaveThrown q (g := F0 m pc ls rest) rfl rfl rfl hout hlocks
  have hcell9 : (T.setFrames (.throwing q :: below)).heap[q]? = some ce := by
    show T.heap[q]? = some ce
    rw [hT]; exact hcell
  exact ⟨_, st1, .threw q, hrun, hend, Or.inr ⟨q, rfl, E, ce, locs, hx _ hT hW.alike, hcell9, hv, hcl, hW, hsm.mono hc hs, hf⟩⟩
theorem vx_frame {U : State} {k n : Nat} (h : s.sameButNew ({ U with vm := s.vm } : State) locs k n) : s.heap.size ≤ U.heap.size ∧ ∀ q : Nat, q < s.heap.size → (∀ z ∈ locs, z.base ≠ q) → U.heap[q]? = s.heap[q]? := by
  obtain ⟨-, h2, -, -, -, h6⟩ := h
  refine ⟨h2, fun q hq hz => ?_⟩
  obtain ⟨c9, e1, e2, e3, e4⟩ := h6 q _ (Array.getElem?_eq_getElem hq)
  have hs : c9.slots = (s.heap[q]).slots := Array.ext_getElem? fun i => e4 i fun hm => hz _ hm rfl
  have h9 : c9 = s.heap[q] := by
    rw [hs] at e2
    exact e2
  have e5 : U.heap[q]? = some c9 := e1
  rw [e5, h9, Array.getElem?_eq_getElem hq]
/-- the words of a throw but the four that speak of the heap -/
def vx_no (w : Cond) : Bool := decide (w ≠ .isRef (.static Bundle.tN "UNASSIGNED_STACK" Bundle.steD)) && decide (w ≠ .isRef (.static Bundle.tN "SUPPRESSED_SENTINEL" Bundle.listD)) && decide (w ≠ .laysStatic Bundle.tN "UNASSIGNED_STACK" Bundle.steD) && decide (w ≠ .laysStatic Bundle.tN "SUPPRESSED_SENTINEL" Bundle.listD)
def vx_at0 (own : String) (ic : Nat) (X : String) (names : List String) : List Cond := (Bundle.ownAtoms0 own ic X names).filter vx_no
def vx_atS (own : String) (ic : Nat) (X : String) (names : List String) : List Cond := (Bundle.ownAtoms own ic X names).filter vx_no
/-- a word that the tables alone decide, or a good one -/
def vx_ot (w : Cond) : Bool := w.onTables || goodWord w
theorem vx_ot_at {args a' : Array Value} {s U : State} {w : Cond} (hW : s.WarmedH U.vm) (hvm : s.vm = U.vm) (hg : vx_ot w = true) (h : w.before args s = true) : w.before a' U = true := by
  simp only [vx_ot, Bool.or_eq_true] at hg
  rcases hg with hg | hg
  · exact va_tabs hg hvm h
  · exact word_at hW (good_of_word hg) h
/-- a list's words: the good ones out of the method's own list, the others by premises of their own -/
theorem vx_hat {args : Array Value} {s : State} {L B : List Cond} (h1 : ∀ w ∈ L.filter goodWord, w.before args s = true) (h2 : ∀ w ∈ L.filter (fun w => !goodWord w), w ∈ B) (h3 : ∀ w ∈ B, w.before args s = true) : ∀ w ∈ L, w.before args s = true := by
  intro w hw
  by_cases g : goodWord w = true
  · exact h1 w (List.mem_filter.mpr ⟨hw, g⟩)
  · refine h3 w (h2 w (List.mem_filter.mpr ⟨hw, ?_⟩))
    show (!goodWord w) = true
    cases hgw : goodWord w
    · rfl
    · exact absurd hgw g
theorem vx_c {args : Array Value} {s : State} {w : Cond} {B : List Cond} (h : w.before args s = true) (t : ∀ w ∈ B, w.before args s = true) : ∀ w' ∈ w :: B, w'.before args s = true := fun w' h' => (List.mem_cons.mp h').elim (fun e => by rw [e]; exact h) (t w')
theorem vx_n {args : Array Value} {s : State} : ∀ w ∈ ([] : List Cond), w.before args s = true := fun _ h => nomatch h
theorem vx_own {args : Array Value} {s : State} {L : List Cond} (h1 : ∀ w ∈ L.filter vx_no, w.before args s = true)
    (hU : (Cond.isRef (.static Bundle.tN "UNASSIGNED_STACK" Bundle.steD)).before args s = true) (hN : (Cond.isRef (.static Bundle.tN "SUPPRESSED_SENTINEL" Bundle.listD)).before args s = true)
    (lU : (Cond.laysStatic Bundle.tN "UNASSIGNED_STACK" Bundle.steD).before args s = true) (lN : (Cond.laysStatic Bundle.tN "SUPPRESSED_SENTINEL" Bundle.listD).before args s = true) : ∀ w ∈ L, w.before args s = true := by
  intro w hw
  by_cases e1 : w = .isRef (.static Bundle.tN "UNASSIGNED_STACK" Bundle.steD)
  · rw [e1]; exact hU
  · by_cases e2 : w = .isRef (.static Bundle.tN "SUPPRESSED_SENTINEL" Bundle.listD)
    · rw [e2]; exact hN
    · by_cases e3 : w = .laysStatic Bundle.tN "UNASSIGNED_STACK" Bundle.steD
      · rw [e3]; exact lU
      · by_cases e4 : w = .laysStatic Bundle.tN "SUPPRESSED_SENTINEL" Bundle.listD
        · rw [e4]; exact lN
        · exact h1 w (List.mem_filter.mpr ⟨hw, by unfold vx_no; rw [decide_eq_true e1, decide_eq_true e2, decide_eq_true e3, decide_eq_true e4]; rfl⟩)
/-- where a static field lies, its class's statics cell in H -/
def vx_L (C n d : String) (A : Nat → Prop) (U : State) (H : Heap) : Prop := ∃ (c : ClassId) (k : Class) (i : Nat) (f : Field) (a : Nat) (cell : Cell), U.vm.findClass C = some c ∧ U.fieldFound? C n d = some (c, k, i, f) ∧ f.isStatic = true ∧ k.statics = some a ∧ H[a]? = some cell ∧ cell.vm.isStatics = true ∧ cell.cls = c ∧ f.slot < cell.slots.size ∧ k.staticTypes[f.slot]? = some f.type ∧ ¬ A a
theorem vx_L.moved {C n d : String} {A : Nat → Prop} {u U : State} {H : Heap} (hvm : u.vm.Alike U.vm) (h : vx_L C n d A u H) : vx_L C n d A U H := by
  obtain ⟨c, k, i, f, a, cell, h1, h2, h3, h4, h5, h6, h7, h8, h9, h10⟩ := h
  obtain ⟨k', hi', he⟩ := State.fieldFound?_setVm hvm h2
  exact ⟨c, k', i, f, a, cell, by rw [hvm.findClass]; exact h1, hi', h3, by rw [he]; exact h4, h5, h6, h7, h8, by rw [he]; exact h9, h10⟩
theorem vx_L.kept {C n d : String} {A : Nat → Prop} {U : State} {H H1 : Heap} (h : vx_L C n d A U H) (hq : ∀ a : Nat, a < H.size → ¬ A a → H1[a]? = H[a]?) : vx_L C n d A U H1 := by
  obtain ⟨c, k, i, f, a, cell, h1, h2, h3, h4, h5, h6, h7, h8, h9, h10⟩ := h
  exact ⟨c, k, i, f, a, cell, h1, h2, h3, h4, by rw [hq a (Array.getElem?_eq_some_iff.mp h5).1 h10]; exact h5, h6, h7, h8, h9, h10⟩
theorem vx_L.narrow {C n d : String} {A B : Nat → Prop} {U : State} {H : Heap} (h : vx_L C n d A U H) (hAB : ∀ q, B q → A q) : vx_L C n d B U H := by
  obtain ⟨c, k, i, f, a, cell, h1, h2, h3, h4, h5, h6, h7, h8, h9, h10⟩ := h
  exact ⟨c, k, i, f, a, cell, h1, h2, h3, h4, h5, h6, h7, h8, h9, fun z => h10 (hAB _ z)⟩
theorem vx_L.word {C n d : String} {A : Nat → Prop} {s : State} {args : Array Value} (h : vx_L C n d A s s.heap) : (Cond.laysStatic C n d).before args s = true := by
  obtain ⟨c, k, i, f, a, cell, h1, h2, h3, h4, h5, h6, h7, h8, h9, -⟩ := h
  show (Cond.laysStatic C n d).holds args s none s [] = true
  exact Cond.laysStatic_of h1 h2 h3 h4 h5 h6 h7 h8 h9
/-- .. and what it holds: null or some reference -/
def vx_Zq (C n d : String) (A : Nat → Prop) (U : State) (H : Heap) : Prop := va_Zq C n d A U H ∧ vx_L C n d A U H
theorem vx_Zq.moved {C n d : String} {A : Nat → Prop} {u U : State} {H : Heap} (hvm : u.vm.Alike U.vm) (h : vx_Zq C n d A u H) : vx_Zq C n d A U H := ⟨va_Zq.moved hvm h.1, vx_L.moved hvm h.2⟩
theorem vx_Zq.kept {C n d : String} {A : Nat → Prop} {U : State} {H H1 : Heap} (h : vx_Zq C n d A U H) (hq : ∀ a : Nat, a < H.size → ¬ A a → H1[a]? = H[a]?) : vx_Zq C n d A U H1 := ⟨va_Zq.kept h.1 hq, vx_L.kept h.2 hq⟩
theorem vx_Zq.narrow {C n d : String} {A B : Nat → Prop} {U : State} {H : Heap} (h : vx_Zq C n d A U H) (hAB : ∀ q, B q → A q) : vx_Zq C n d B U H := ⟨va_Zq.narrow h.1 hAB, vx_L.narrow h.2 hAB⟩
theorem vx_Zqof {args : Array Value} {s : State} {C n d : String} {A : Nat → Prop} (hl : (Cond.laysStatic C n d).before args s = true) (hini : (Cond.initialized C).before args s = true) (h : (Cond.isRef (.static C n d)).before args s = true) (hA : ∀ a : Nat, a < s.heap.size → ¬ A a) : vx_Zq C n d A s s.heap := by
  refine ⟨va_Zqof hl hini h hA, ?_⟩
  obtain ⟨c, k, i, f, a, cell, h1, h2, h3, h4, h5, h6, h7, h8, h9⟩ := Cond.laysStatic_spec hl
  exact ⟨c, k, i, f, a, cell, h1, h2, h3, h4, h5, h6, h7, h8, h9, hA a (Array.getElem?_eq_some_iff.mp h5).1⟩
theorem vx_isRef {C n d : String} {v : Value} {A : Nat → Prop} {s : State} {args : Array Value} (h : va_Z C n d v A s s.heap) (hv : v.isRef = true) : (Cond.isRef (.static C n d)).before args s = true := by
  obtain ⟨cf, kf, fi, f, a, cell, h1, h2, h3, h4, h5, h6, h7, -⟩ := h
  have he : (Term.static C n d).eval args s none [] s = some v := by
    simp [Term.eval, State.fieldNamed?, h1, h2, h4, h5, h6, h7]
  simp only [Cond.before, Cond.holds, Cond.value, he]
  cases v <;> simp_all [Value.isRef]
theorem vx_isRefq {C n d : String} {A : Nat → Prop} {s : State} {args : Array Value} (h : va_Zq C n d A s s.heap) : (Cond.isRef (.static C n d)).before args s = true := by
  rcases h with h | ⟨t, h⟩
  · exact vx_isRef h rfl
  · exact vx_isRef h rfl
/-- the same frame, seen from here: as if the method were called anew in this heap -/
theorem vx_rebase {T : State} (X : Stand p l e R s m args below meth c T locs cells slots) {R' : Room} (hf : R'.frames ≤ R.frames) (hl : R'.locals ≤ R.locals) (hc : cells + R'.cells ≤ R.cells) (hs : slots + R'.slots ≤ R.slots) :
    Stand p l e R' ((T.setVm s.vm).setFrames (.invoking m args :: below)) m args below meth c T [] 0 0 := by
  have htop : (T.setVm s.vm).topJava?.isSome := X.here.top
  have hF : ((T.setVm s.vm).setFrames (.invoking m args :: below)).frames = .invoking m args :: below := State.frames_setFrames _ (State.cur_lt_of_top htop)
  obtain ⟨g₀, hg0⟩ := Option.isSome_iff_exists.mp htop
  obtain ⟨r, hr⟩ := State.topJava?_eq_some.mp hg0
  have hl9 : e.platform.stackLimits (T.setVm s.vm).me = e.platform.stackLimits s.me := X.limits
  have hb9 : (T.setVm s.vm).me.stackBytes = s.me.stackBytes := X.bytes
  refine ⟨X.admits, X.cas, X.clock, hF, ?_, X.hears, X.method, X.code, X.here, X.tail, X.warmed, ?_, ?_, ?_⟩
  · have h := X.room
    have hU : ((T.setVm s.vm).setFrames (.invoking m args :: below)).localsInUse = s.localsInUse := by
      rw [State.localsInUse_invoking hF (meth := meth) (c := c) X.method X.code, State.localsInUse_invoking X.frames X.method X.code]
    simp only [State.hasRoom, Bool.and_eq_true, decide_eq_true_eq] at h ⊢
    obtain ⟨⟨⟨⟨h1, h2, h3, h4, h5, h6⟩, h7⟩, h8⟩, h9⟩ := h
    rw [X.frames, List.length_cons] at h2 h3
    have q1 := X.heapSize
    have q2 := X.used
    simp only [hF, hU, List.length_cons, State.stackLimits_setFrames, State.stackBytes_setFrames, hl9, hb9]
    refine ⟨⟨⟨⟨by omega, by omega, by omega, by omega, by omega, h6⟩, ?_⟩, ?_⟩, X.book⟩
    · show T.heap.size + R'.cells ≤ e.platform.maxCells
      omega
    · show T.slotsUsed + R'.slots ≤ e.platform.maxSlots
      omega
  · rw [State.stackLimits_setFrames]; rfl
  · rw [State.stackBytes_setFrames]; rfl
  · refine ⟨?_, Nat.le_refl _, Nat.le_refl _, ?_, ?_, fun a c9 h9 => ⟨c9, h9, rfl, rfl, fun _ _ => rfl⟩⟩
    · obtain ⟨t, ht, -⟩ := State.frames_cons hr
      show T.setVm s.vm = { ((T.setVm s.vm).setFrames (.invoking m args :: below)).setFrames (T.setVm s.vm).frames with heap := T.heap, slotsUsed := T.slotsUsed }
      rw [State.setFrames_setFrames, State.setFrames_self ht]
      rfl
    · show T.slotsUsed = T.slotsUsed + ((T.heap.toList.drop T.heap.size).map (·.slots.size)).sum
      rw [List.drop_eq_nil_of_le (Nat.le_of_eq Array.length_toList)]
      rfl
    · show ((T.heap.toList.drop T.heap.size).map (·.slots.size)).sum ≤ 0
      rw [List.drop_eq_nil_of_le (Nat.le_of_eq Array.length_toList)]
      exact Nat.le_refl _
/-- 'throw new E()': new; dup; invokespecial; athrow -/
theorem vx_throw0 {cc : ByteArray} {pc : Nat} (hexec : p.tables.exec = Jvm.exec) (hb : c.code = cc) (hl : l.stackTraces = false) {own cls : String} {names : List String} {ik ic mc ms : Nat} {A : Nat → Prop}
    (hown : s.vm.findClass own = some m.cls) (hcls : Bundle.fit cls = true) (hnames : ∀ n ∈ names, Bundle.fit n = true)
    (hk : (Cond.classLink own ik cls).before args s = true) (hini : (Cond.initialized cls).before args s = true) (hat : ∀ w ∈ vx_at0 own ic cls names, w.before args s = true)
    (hgood : ∀ w ∈ Cond.classLink own ik cls :: Cond.initialized cls :: vx_at0 own ic cls names, vx_ot w = true)
    (hU : vx_Zq Bundle.tN "UNASSIGNED_STACK" Bundle.steD A s s.heap) (hN : vx_Zq Bundle.tN "SUPPRESSED_SENTINEL" Bundle.listD A s s.heap) (hS : va_S A s.heap H locs) (hsize : ls.size = c.maxLocals)
    (d0 : decode cc pc = .ok (.new ik, 3)) (d3 : decode cc (pc + 3) = .ok (.dup, 1)) (d4 : decode cc (pc + 4) = .ok (.invokespecial ic, 3)) (d7 : decode cc (pc + 7) = .ok (.athrow, 1))
    (hout : ∀ x ∈ c.exceptionTable.toList, covers x (pc + 7) = false)
    (hRframes : names.length + 3 < R.frames) (hRlocals : (rest.map fun v => v.category).sum + (13 * (names.length + 1) + 42) ≤ R.locals) (hRcells : cells + 1 ≤ R.cells) (hRslots : slots + 6 ≤ R.slots) (hlocks : meth.locks = false)
    (hx : ∀ t : State, s.vm.Alike t.vm → H.size ≤ t.heap.size → (∀ q : Nat, q < H.size → t.heap[q]? = H[q]?) → XC cls s t)
    (hf : ∀ z ∈ locs, free z.base) (hc : cells + 1 ≤ mc) (hs : slots + 6 ≤ ms) :
    W p l e R s m args below meth c H locs cells slots (vx_MQ below Qc XC args s mc ms free) (F0 m pc ls rest) := by
  intro T hT X
  have htr : e.platform.stackTraces = false := (show e.platform.stackTraces = l.stackTraces by rw [X.admits.platform]).trans hl
  have Y := vx_rebase X (R' := { frames := R.frames, locals := R.locals, cells := 1, slots := 6 }) (Nat.le_refl _) (Nat.le_refl _) hRcells hRslots
  obtain ⟨s', hA⟩ : ∃ z, z = (T.setVm s.vm).setFrames (.invoking m args :: below) := ⟨_, rfl⟩
  rw [← hA] at Y
  have hvm : s'.vm = s.vm := by rw [hA]; rfl
  have hhp : s'.heap = H := by rw [hA]; exact hT
  have hW0 : s.WarmedH s'.vm := by rw [hvm]; exact State.WarmedH.refl s
  have hat' : ∀ w ∈ vx_at0 own ic cls names, w.before args s' = true := fun w hw => vx_ot_at hW0 hvm.symm (hgood w (List.mem_cons_of_mem _ (List.mem_cons_of_mem _ hw))) (hat w hw)
  have hk' : (Cond.classLink own ik cls).before args s' = true := vx_ot_at hW0 hvm.symm (hgood _ List.mem_cons_self) hk
  have hini' : (Cond.initialized cls).before args s' = true := vx_ot_at hW0 hvm.symm (hgood _ (List.mem_cons_of_mem _ List.mem_cons_self)) hini
  have hU' : vx_Zq Bundle.tN "UNASSIGNED_STACK" Bundle.steD A s' s'.heap := by rw [hhp]; exact vx_Zq.moved hW0.alike (hU.kept hS.2.1)
  have hN' : vx_Zq Bundle.tN "SUPPRESSED_SENTINEL" Bundle.listD A s' s'.heap := by rw [hhp]; exact vx_Zq.moved hW0.alike (hN.kept hS.2.1)
  have h : ∀ w ∈ Bundle.ownAtoms0 own ic cls names, w.before args s' = true := vx_own hat' (vx_isRefq hU'.1) (vx_isRefq hN'.1) hU'.2.word hN'.2.word
  have hown' : s'.vm.findClass own = some m.cls := by rw [hvm]; exact hown
  have hins : (Cond.instantiable cls 6).before args s' = true := h _ (by simp [Bundle.ownAtoms0])
  obtain ⟨vm₁, cX, kX, hfX, hkX, -, -, X₁, st1⟩ := Y.newCold hexec (own := own) (C := cls) (index := ik) (n := 6) hown' hk' hins hini'
    (g := F0 m pc ls rest) rfl (by rw [hb]; exact d0) (Nat.le_refl _) (Nat.le_refl _)
  generalize hT1 : (T.setVm vm₁).pushCell { cls := cX, slots := kX.instanceTypes.map defaultValue, vm := .none } = T1 at X₁ st1
  have hcat : (Value.ref T.heap.size).category = 1 := rfl
  have hcellA : T1.heap[T.heap.size]? = some (freshCell cX kX) := by rw [← hT1]; exact State.heap_pushCell_size _ _
  have d3' : decode c.code (pc + 3) = .ok (.dup, 1) := by rw [hb]; exact d3
  obtain ⟨U, hsteps, hrun, hend, hW, hsame, ce, hce, hO⟩ := X₁.ctorThrow0 hexec htr (own := own) (cls := cls) (names := names) (ic := ic) hown' hcls hnames h (fun x hx => nomatch hx) hfX hkX hcellA (by rw [hhp, hT]; exact Nat.le_refl _)
    (g := { method := m, pc := pc + 4, locals := ls, stack := .ref T.heap.size :: .ref T.heap.size :: rest, locked := none }) rfl hsize rfl rfl (rest := rest) rfl
    (by rw [hb]; exact d4) (by rw [hb]; exact d7) hout hRframes (by simp only [List.map_cons, List.sum_cons, hcat]; omega) hlocks
  obtain ⟨f1, f2⟩ := vx_frame hsame
  rw [hhp] at f1 f2
  have hWs : s.WarmedH U.vm := State.WarmedH.trans hW0 hW
  have hcl : s.vm.findClass cls = some ce.cls := by
    have h9 := hO.cls
    rw [hvm] at h9
    exact h9
  have hall : s.sameButNew ({ U with vm := s.vm } : State) locs mc ms := by
    subst hA
    obtain ⟨e1, e2⟩ := hsame
    rw [State.setFrames_setFrames] at e1
    have h2 : (T.setVm s.vm).sameButNew ({ U with vm := s.vm } : State) [] (0 + 1) (0 + 6) := ⟨e1, e2⟩
    have h3 := X.same.trans h2
    rw [List.append_nil] at h3
    exact h3.mono hc hs
  refine ⟨U, ?_, .threw T.heap.size, hrun, hend, Or.inr ⟨T.heap.size, rfl, cls, ce, locs, hx U hWs.alike f1 (fun q hq => f2 q hq (fun z hz => nomatch hz)), hce, hO.vm, hcl, hWs, hall, hf⟩⟩
  refine st1 _ ?_
  show Steps p.tables e below (T1.setTop { method := m, pc := pc + 3, locals := ls, stack := .ref T.heap.size :: rest, locked := none }) _
  jvm_step X₁.here [X₁.here.top, hexec, d3', Value.category]
  exact hsteps
/-- 'throw new E("text")': new; dup; ldc; invokespecial; athrow -/
theorem vx_throwS {cc : ByteArray} {pc : Nat} (hexec : p.tables.exec = Jvm.exec) (hb : c.code = cc) (hl : l.stackTraces = false) {own cls text : String} {names : List String} {ik is ic mc ms sa : Nat} {A : Nat → Prop}
    (hown : s.vm.findClass own = some m.cls) (hcls : Bundle.fit cls = true) (hnames : ∀ n ∈ names, Bundle.fit n = true)
    (hk : (Cond.classLink own ik cls).before args s = true) (hini : (Cond.initialized cls).before args s = true) (hstr : vk_R own is text sa s) (hat : ∀ w ∈ vx_atS own ic cls names, w.before args s = true)
    (hgood : ∀ w ∈ Cond.classLink own ik cls :: Cond.initialized cls :: vx_atS own ic cls names, vx_ot w = true)
    (hU : vx_Zq Bundle.tN "UNASSIGNED_STACK" Bundle.steD A s s.heap) (hN : vx_Zq Bundle.tN "SUPPRESSED_SENTINEL" Bundle.listD A s s.heap) (hS : va_S A s.heap H locs) (hsize : ls.size = c.maxLocals)
    (d0 : decode cc pc = .ok (.new ik, 3)) (d3 : decode cc (pc + 3) = .ok (.dup, 1)) (d4 : decode cc (pc + 4) = .ok (.ldc is, 2)) (d6 : decode cc (pc + 6) = .ok (.invokespecial ic, 3)) (d9 : decode cc (pc + 9) = .ok (.athrow, 1))
    (hout : ∀ x ∈ c.exceptionTable.toList, covers x (pc + 9) = false)
    (hRframes : names.length + 3 < R.frames) (hRlocals : (rest.map fun v => v.category).sum + (13 * (names.length + 1) + 43) ≤ R.locals) (hRcells : cells + 1 ≤ R.cells) (hRslots : slots + 6 ≤ R.slots) (hlocks : meth.locks = false)
    (hx : ∀ t : State, s.vm.Alike t.vm → H.size ≤ t.heap.size → (∀ q : Nat, q < H.size → t.heap[q]? = H[q]?) → XC cls s t)
    (hf : ∀ z ∈ locs, free z.base) (hc : cells + 1 ≤ mc) (hs : slots + 6 ≤ ms) :
    W p l e R s m args below meth c H locs cells slots (vx_MQ below Qc XC args s mc ms free) (F0 m pc ls rest) := by
  intro T hT X
  have htr : e.platform.stackTraces = false := (show e.platform.stackTraces = l.stackTraces by rw [X.admits.platform]).trans hl
  have Y := vx_rebase X (R' := { frames := R.frames, locals := R.locals, cells := 1, slots := 6 }) (Nat.le_refl _) (Nat.le_refl _) hRcells hRslots
  obtain ⟨s', hA⟩ : ∃ z, z = (T.setVm s.vm).setFrames (.invoking m args :: below) := ⟨_, rfl⟩
  rw [← hA] at Y
  have hvm : s'.vm = s.vm := by rw [hA]; rfl
  have hhp : s'.heap = H := by rw [hA]; exact hT
  have hW0 : s.WarmedH s'.vm := by rw [hvm]; exact State.WarmedH.refl s
  have hat' : ∀ w ∈ vx_atS own ic cls names, w.before args s' = true := fun w hw => vx_ot_at hW0 hvm.symm (hgood w (List.mem_cons_of_mem _ (List.mem_cons_of_mem _ hw))) (hat w hw)
  have hk' : (Cond.classLink own ik cls).before args s' = true := vx_ot_at hW0 hvm.symm (hgood _ List.mem_cons_self) hk
  have hini' : (Cond.initialized cls).before args s' = true := vx_ot_at hW0 hvm.symm (hgood _ (List.mem_cons_of_mem _ List.mem_cons_self)) hini
  have hU' : vx_Zq Bundle.tN "UNASSIGNED_STACK" Bundle.steD A s' s'.heap := by rw [hhp]; exact vx_Zq.moved hW0.alike (hU.kept hS.2.1)
  have hN' : vx_Zq Bundle.tN "SUPPRESSED_SENTINEL" Bundle.listD A s' s'.heap := by rw [hhp]; exact vx_Zq.moved hW0.alike (hN.kept hS.2.1)
  have h : ∀ w ∈ Bundle.ownAtoms own ic cls names, w.before args s' = true := vx_own hat' (vx_isRefq hU'.1) (vx_isRefq hN'.1) hU'.2.word hN'.2.word
  have hown' : s'.vm.findClass own = some m.cls := by rw [hvm]; exact hown
  have hins : (Cond.instantiable cls 6).before args s' = true := h _ (by simp [Bundle.ownAtoms])
  obtain ⟨vm₁, cX, kX, hfX, hkX, -, -, X₁, st1⟩ := Y.newCold hexec (own := own) (C := cls) (index := ik) (n := 6) hown' hk' hins hini'
    (g := F0 m pc ls rest) rfl (by rw [hb]; exact d0) (Nat.le_refl _) (Nat.le_refl _)
  generalize hT1 : (T.setVm vm₁).pushCell { cls := cX, slots := kX.instanceTypes.map defaultValue, vm := .none } = T1 at X₁ st1
  have hcat : (Value.ref T.heap.size).category = 1 := rfl
  have hcellA : T1.heap[T.heap.size]? = some (freshCell cX kX) := by rw [← hT1]; exact State.heap_pushCell_size _ _
  have d3' : decode c.code (pc + 3) = .ok (.dup, 1) := by rw [hb]; exact d3
  have d4' : decode c.code (pc + 4) = .ok (.ldc is, 2) := by rw [hb]; exact d4
  have hstr' : vk_R own is text sa s' := vk_R.warm hW0 hstr
  obtain ⟨U, hsteps, hrun, hend, hW, hsame, ce, hce, hO⟩ := X₁.ctorThrowS hexec htr (own := own) (cls := cls) (names := names) (ic := ic) hown' hcls hnames h (fun x hx => nomatch hx) hfX hkX hcellA (by rw [hhp, hT]; exact Nat.le_refl _) (msg := .ref sa) rfl
    (g := { method := m, pc := pc + 6, locals := ls, stack := .ref sa :: .ref T.heap.size :: .ref T.heap.size :: rest, locked := none }) rfl hsize rfl rfl (rest := rest) rfl
    (by rw [hb]; exact d6) (by rw [hb]; exact d9) hout hRframes (by simp only [List.map_cons, List.sum_cons, hcat]; omega) hlocks
  obtain ⟨f1, f2⟩ := vx_frame hsame
  rw [hhp] at f1 f2
  have hWs : s.WarmedH U.vm := State.WarmedH.trans hW0 hW
  have hcl : s.vm.findClass cls = some ce.cls := by
    have h9 := hO.cls
    rw [hvm] at h9
    exact h9
  have hall : s.sameButNew ({ U with vm := s.vm } : State) locs mc ms := by
    subst hA
    obtain ⟨e1, e2⟩ := hsame
    rw [State.setFrames_setFrames] at e1
    have h2 : (T.setVm s.vm).sameButNew ({ U with vm := s.vm } : State) [] (0 + 1) (0 + 6) := ⟨e1, e2⟩
    have h3 := X.same.trans h2
    rw [List.append_nil] at h3
    exact h3.mono hc hs
  refine ⟨U, ?_, .threw T.heap.size, hrun, hend, Or.inr ⟨T.heap.size, rfl, cls, ce, locs, hx U hWs.alike f1 (fun q hq => f2 q hq (fun z hz => nomatch hz)), hce, hO.vm, hcl, hWs, hall, hf⟩⟩
  refine st1 _ ?_
  show Steps p.tables e below (T1.setTop { method := m, pc := pc + 3, locals := ls, stack := .ref T.heap.size :: rest, locked := none }) _
  jvm_step X₁.here [X₁.here.top, hexec, d3', Value.category]
  exact X₁.ldcString hexec (own := own) (text := text) (index := is) (a := sa) hown' hstr'.1 hstr'.2
    (g := { method := m, pc := pc + 4, locals := ls, stack := .ref T.heap.size :: .ref T.heap.size :: rest, locked := none }) rfl d4' _ hsteps
/-- 'throw new E("text")', the text by a wide index -/
theorem vx_throwSW {cc : ByteArray} {pc : Nat} (hexec : p.tables.exec = Jvm.exec) (hb : c.code = cc) (hl : l.stackTraces = false) {own cls text : String} {names : List String} {ik is ic mc ms sa : Nat} {A : Nat → Prop}
    (hown : s.vm.findClass own = some m.cls) (hcls : Bundle.fit cls = true) (hnames : ∀ n ∈ names, Bundle.fit n = true)
    (hk : (Cond.classLink own ik cls).before args s = true) (hini : (Cond.initialized cls).before args s = true) (hstr : vk_R own is text sa s) (hat : ∀ w ∈ vx_atS own ic cls names, w.before args s = true)
    (hgood : ∀ w ∈ Cond.classLink own ik cls :: Cond.initialized cls :: vx_atS own ic cls names, vx_ot w = true)
    (hU : vx_Zq Bundle.tN "UNASSIGNED_STACK" Bundle.steD A s s.heap) (hN : vx_Zq Bundle.tN "SUPPRESSED_SENTINEL" Bundle.listD A s s.heap) (hS : va_S A s.heap H locs) (hsize : ls.size = c.maxLocals)
    (d0 : decode cc pc = .ok (.new ik, 3)) (d3 : decode cc (pc + 3) = .ok (.dup, 1)) (d4 : decode cc (pc + 4) = .ok (.ldc_w is, 3)) (d7 : decode cc (pc + 7) = .ok (.invokespecial ic, 3)) (d10 : decode cc (pc + 10) = .ok (.athrow, 1))
    (hout : ∀ x ∈ c.exceptionTable.toList, covers x (pc + 10) = false)
    (hRframes : names.length + 3 < R.frames) (hRlocals : (rest.map fun v => v.category).sum + (13 * (names.length + 1) + 43) ≤ R.locals) (hRcells : cells + 1 ≤ R.cells) (hRslots : slots + 6 ≤ R.slots) (hlocks : meth.locks = false)
    (hx : ∀ t : State, s.vm.Alike t.vm → H.size ≤ t.heap.size → (∀ q : Nat, q < H.size → t.heap[q]? = H[q]?) → XC cls s t)
    (hf : ∀ z ∈ locs, free z.base) (hc : cells + 1 ≤ mc) (hs : slots + 6 ≤ ms) :
    W p l e R s m args below meth c H locs cells slots (vx_MQ below Qc XC args s mc ms free) (F0 m pc ls rest) := by
  intro T hT X
  have htr : e.platform.stackTraces = false := (show e.platform.stackTraces = l.stackTraces by rw [X.admits.platform]).trans hl
  have Y := vx_rebase X (R' := { frames := R.frames, locals := R.locals, cells := 1, slots := 6 }) (Nat.le_refl _) (Nat.le_refl _) hRcells hRslots
  obtain ⟨s', hA⟩ : ∃ z, z = (T.setVm s.vm).setFrames (.invoking m args :: below) := ⟨_, rfl⟩
  rw [← hA] at Y
  have hvm : s'.vm = s.vm := by rw [hA]; rfl
  have hhp : s'.heap = H := by rw [hA]; exact hT
  have hW0 : s.WarmedH s'.vm := by rw [hvm]; exact State.WarmedH.refl s
  have hat' : ∀ w ∈ vx_atS own ic cls names, w.before args s' = true := fun w hw => vx_ot_at hW0 hvm.symm (hgood w (List.mem_cons_of_mem _ (List.mem_cons_of_mem _ hw))) (hat w hw)
  have hk' : (Cond.classLink own ik cls).before args s' = true := vx_ot_at hW0 hvm.symm (hgood _ List.mem_cons_self) hk
  have hini' : (Cond.initialized cls).before args s' = true := vx_ot_at hW0 hvm.symm (hgood _ (List.mem_cons_of_mem _ List.mem_cons_self)) hini
  have hU' : vx_Zq Bundle.tN "UNASSIGNED_STACK" Bundle.steD A s' s'.heap := by rw [hhp]; exact vx_Zq.moved hW0.alike (hU.kept hS.2.1)
  have hN' : vx_Zq Bundle.tN "SUPPRESSED_SENTINEL" Bundle.listD A s' s'.heap := by rw [hhp]; exact vx_Zq.moved hW0.alike (hN.kept hS.2.1)
  have h : ∀ w ∈ Bundle.ownAtoms own ic cls names, w.before args s' = true := vx_own hat' (vx_isRefq hU'.1) (vx_isRefq hN'.1) hU'.2.word hN'.2.word
  have hown' : s'.vm.findClass own = some m.cls := by rw [hvm]; exact hown
  have hins : (Cond.instantiable cls 6).before args s' = true := h _ (by simp [Bundle.ownAtoms])
  obtain ⟨vm₁, cX, kX, hfX, hkX, -, -, X₁, st1⟩ := Y.newCold hexec (own := own) (C := cls) (index := ik) (n := 6) hown' hk' hins hini'
    (g := F0 m pc ls rest) rfl (by rw [hb]; exact d0) (Nat.le_refl _) (Nat.le_refl _)
  generalize hT1 : (T.setVm vm₁).pushCell { cls := cX, slots := kX.instanceTypes.map defaultValue, vm := .none } = T1 at X₁ st1
  have hcat : (Value.ref T.heap.size).category = 1 := rfl
  have hcellA : T1.heap[T.heap.size]? = some (freshCell cX kX) := by rw [← hT1]; exact State.heap_pushCell_size _ _
  have d3' : decode c.code (pc + 3) = .ok (.dup, 1) := by rw [hb]; exact d3
  have d4' : decode c.code (pc + 4) = .ok (.ldc_w is, 3) := by rw [hb]; exact d4
  have hstr' : vk_R own is text sa s' := vk_R.warm hW0 hstr
  obtain ⟨U, hsteps, hrun, hend, hW, hsame, ce, hce, hO⟩ := X₁.ctorThrowS hexec htr (own := own) (cls := cls) (names := names) (ic := ic) hown' hcls hnames h (fun x hx => nomatch hx) hfX hkX hcellA (by rw [hhp, hT]; exact Nat.le_refl _) (msg := .ref sa) rfl
    (g := { method := m, pc := pc + 7, locals := ls, stack := .ref sa :: .ref T.heap.size :: .ref T.heap.size :: rest, locked := none }) rfl hsize rfl rfl (rest := rest) rfl
    (by rw [hb]; exact d7) (by rw [hb]; exact d10) hout hRframes (by simp only [List.map_cons, List.sum_cons, hcat]; omega) hlocks
  obtain ⟨f1, f2⟩ := vx_frame hsame
  rw [hhp] at f1 f2
  have hWs : s.WarmedH U.vm := State.WarmedH.trans hW0 hW
  have hcl : s.vm.findClass cls = some ce.cls := by
    have h9 := hO.cls
    rw [hvm] at h9
    exact h9
  have hall : s.sameButNew ({ U with vm := s.vm } : State) locs mc ms := by
    subst hA
    obtain ⟨e1, e2⟩ := hsame
    rw [State.setFrames_setFrames] at e1
    have h2 : (T.setVm s.vm).sameButNew ({ U with vm := s.vm } : State) [] (0 + 1) (0 + 6) := ⟨e1, e2⟩
    have h3 := X.same.trans h2
    rw [List.append_nil] at h3
    exact h3.mono hc hs
  refine ⟨U, ?_, .threw T.heap.size, hrun, hend, Or.inr ⟨T.heap.size, rfl, cls, ce, locs, hx U hWs.alike f1 (fun q hq => f2 q hq (fun z hz => nomatch hz)), hce, hO.vm, hcl, hWs, hall, hf⟩⟩
  refine st1 _ ?_
  show Steps p.tables e below (T1.setTop { method := m, pc := pc + 3, locals := ls, stack := .ref T.heap.size :: rest, locked := none }) _
  jvm_step X₁.here [X₁.here.top, hexec, d3', Value.category]
  exact X₁.ldcStringW hexec (own := own) (text := text) (index := is) (a := sa) hown' hstr'.1 hstr'.2
    (g := { method := m, pc := pc + 4, locals := ls, stack := .ref T.heap.size :: .ref T.heap.size :: rest, locked := none }) rfl d4' _ hsteps
end Ends
section Bodies
variable {l : Launch}
theorem vx_ofW {y : MethodName} {ws ws' : List Cond} {rm : Room} {Pc : Array Value → State → Prop} {Qc : Array Value → State → Outcome → State → Prop} {XC : String → State → State → Prop} {mc ms : Nat} {free : Addr → Prop} {cc : ByteArray} {maxL : Nat} {ret : Option FieldType}
    (hy : plainName y.cls = true) (hw : ws = Cond.code y cc maxL ret :: ws')
    (body : ∀ p e s m args below meth c s₁, BodyLoose p l y (headSpec ws rm) cc maxL ret e s m args below meth c s₁ → c.maxLocals = maxL → (∀ x ∈ c.exceptionTable.toList, False) → Pc args s →
      W p l e (headSpec ws rm).room s m args below meth c s.heap [] 0 0 (vx_MQ below Qc XC args s mc ms free) (entryFrame m args maxL)) : vx_Met l y ws rm Pc Qc XC mc ms free := by
  refine MetFree.of_bodyS (code := cc) (maxLocals := maxL) (ret := ret) hy ?_ ?_
  · intro args s m h hn
    obtain ⟨meth, c, h1, h2, h3, h4, h5, h6, -, -⟩ := Cond.code_spec hn (atoms_spec (ws := ws) h _ (by rw [hw]; exact List.mem_cons_self))
    exact ⟨meth, c, h1, h2, h3, h4, h5, h6⟩
  · intro p e s m args below meth c s₁ B hml hP _
    have hh0 : s₁.heap = s.heap := by rw [B.state]; rfl
    have ht : ∀ x ∈ c.exceptionTable.toList, False := by
      obtain ⟨meth9, c9, h1, h2, -, -, -, -, h7, -⟩ := Cond.code_spec B.named (atoms_spec (ws := ws) B.pre _ (by rw [hw]; exact List.mem_cons_self))
      cases Option.some.inj (h1.symm.trans B.method)
      cases Option.some.inj (h2.symm.trans (Stand.of_body B).code)
      intro x hx
      rw [Array.isEmpty_iff.mp h7] at hx
      cases hx
    obtain ⟨t, a1, o, b1, b2, b3⟩ := body p e s m args below meth c s₁ B hml ht hP s₁ hh0 (Stand.of_body B)
    exact ⟨t, o, a1, b1, b2, b3⟩
/-- the table of a body with handlers -/
theorem vx_table {p : Program} {x y : MethodName} {S : Spec} {cc bytes : ByteArray} {maxL maxL' : Nat} {ret ret' : Option FieldType} {e : Env} {s s₁ : State} {m : MethodId} {args : Array Value} {below : List Frame} {meth : Method} {c : Code} {hh : List (Nat × Nat × Nat × Nat)}
    (B : BodyLoose p l y S cc maxL ret e s m args below meth c s₁) (h : (Cond.codeWith y bytes maxL' ret' hh).before args s = true) : c.exceptionTable.toList = tableOf hh := by
  obtain ⟨m9, meth9, c9, hn9, h1, h2, -, -, h6, -⟩ := Cond.codeWith_spec h
  cases Option.some.inj (hn9.symm.trans B.named)
  cases Option.some.inj (h1.symm.trans B.method)
  cases Option.some.inj (h2.symm.trans (Stand.of_body B).code)
  rw [← h6, table_eq]
end Bodies
end VXA
/-! ===== END ===== -/
/-! ===== BEGIN a static call of a method with an exception table ===== -/
section VXS
variable {p : Program} {l : Launch} {e : Env} {R : Room} {s : State} {m : MethodId} {args : Array Value} {below : List Frame} {meth : Method} {c : Code} {T : State} {H : Heap} {locs : List Loc} {cells slots : Nat}
abbrev vx_CSW (R : Room) (s : State) (args : Array Value) (own : String) (index : Nat) (y : MethodName) (bytes : ByteArray) (maxL : Nat) (ret : Option FieldType) (hh : List (Nat × Nat × Nat × Nat)) (ws : List Cond) (rm : Room) (mc ms n : Nat) : Prop :=
  (rm.cells = mc ∧ rm.slots = ms ∧ rm.frames + 1 ≤ R.frames ∧ 8 + (maxL + 11) + rm.locals ≤ R.locals ∧ (∀ w ∈ ws, ∀ (a' : Array Value) (U : State), s.WarmedH U.vm → w.before a' U = true) ∧ Cond.codeWith y bytes maxL ret hh ∈ ws) ∧
  (Cond.codeWith y bytes maxL ret hh).before args s = true ∧ (Cond.initialized y.cls).before args s = true ∧ (y.cls ≠ "java/lang/invoke/MethodHandle" ∧ y.cls ≠ "java/lang/invoke/VarHandle") ∧
  (∀ sig, parseMethodDescriptor y.desc = some sig → n = sig.parameters.length) ∧ (Cond.methodLink own index y).before args s = true ∧ (Cond.static y).before args s = true
theorem vx_cwSW {own : String} {index maxL mc ms : Nat} {y : MethodName} {bytes : ByteArray} {ret : Option FieldType} {hh : List (Nat × Nat × Nat × Nat)} {Ts ws ws' : List Cond} {rm : Room} (n : Nat) (ht : ∀ w ∈ Ts, w.before args s = true) (hT : GoodIn Ts (va_wsS own index y ws)) (hw : ws = Cond.codeWith y bytes maxL ret hh :: ws') (hrc : rm.cells = mc) (hrs : rm.slots = ms)
    (hd : y.cls ≠ "java/lang/invoke/MethodHandle" ∧ y.cls ≠ "java/lang/invoke/VarHandle" ∧ (parseMethodDescriptor y.desc).map (fun d => d.parameters.length) = some n) (hR : rm.frames + 1 ≤ R.frames ∧ 8 + (maxL + 11) + rm.locals ≤ R.locals) :
    vx_CSW R s args own index y bytes maxL ret hh ws rm mc ms n := by
  have ok : ∀ w ∈ va_wsS own index y ws, w.before args s = true := fun w h => ht w (hT w h).1
  have hG : GoodIn Ts ws := fun w h => hT w (by unfold va_wsS; exact List.mem_append_right _ h)
  have hc : Cond.codeWith y bytes maxL ret hh ∈ ws := by rw [hw]; exact List.mem_cons_self
  refine ⟨⟨hrc, hrs, hR.1, hR.2, pay_in ht hG, hc⟩, ht _ (hG _ hc).1, ok _ (by simp [va_wsS]), ⟨hd.1, hd.2.1⟩, fun sig h => ?_, ok _ (by simp [va_wsS]), ok _ (by simp [va_wsS])⟩
  have h2 := hd.2.2
  rw [h] at h2
  exact (Option.some.inj h2).symm
theorem vx_callSW (X : Stand p l e R s m args below meth c T locs cells slots) (hexec : p.tables.exec = Jvm.exec) {own : String} {index : Nat} {y : MethodName} {bytes : ByteArray} {maxL : Nat} {ret : Option FieldType} {hh : List (Nat × Nat × Nat × Nat)}
    (hown : s.vm.findClass own = some m.cls) (hlink : (Cond.methodLink own index y).before args s = true) (hstat : (Cond.static y).before args s = true) (hinit : (Cond.initialized y.cls).before args s = true)
    (hcode : (Cond.codeWith y bytes maxL ret hh).before args s = true) (hy : y.cls ≠ "java/lang/invoke/MethodHandle" ∧ y.cls ≠ "java/lang/invoke/VarHandle")
    {W9 : Nat} {Pre : Pt → Array Value → Prop} {Post : Pt → Array Value → Option Value → Pt → Prop} (hK : Back l R p e below s args y 3 W9 Pre Post)
    {g : JFrame} (hg : g.method = m) (hsize : g.locals.size = c.maxLocals) {argsL rest : List Value} (hlen : ∀ sig, parseMethodDescriptor y.desc = some sig → argsL.length = sig.parameters.length)
    (hstack : g.stack = argsL.reverse ++ rest) (hW : 2 * g.monitorRoom + (rest.map fun v => v.category).sum ≤ W9) (hdg : decode c.code g.pc = .ok (.invokestatic index, 3))
    (hpre : ∀ vm₁, s.WarmedH vm₁ → Pre ⟨T.setVm vm₁, locs, cells, slots⟩ argsL.toArray) :
    ∃ (v : Option Value) (vm₁ : Vm) (B : Pt), s.WarmedH vm₁ ∧ Stand p l e R s m args below meth c B.U B.locs B.cells B.slots ∧ Post ⟨T.setVm vm₁, locs, cells, slots⟩ argsL.toArray v B ∧
      ∀ target, Steps p.tables e below (B.U.setTop { g with pc := g.pc + 3, stack := v.toList ++ rest }) target → Steps p.tables e below (T.setTop g) target := by
  obtain ⟨mk, methM, cM, hnamed, hmethM, -, -, -, -, -, -, hsigM⟩ := Cond.codeWith_spec hcode
  have hstatic : methM.isStatic = true := Cond.static_spec hnamed hmethM hstat
  obtain ⟨kP, hkP, -⟩ := className_of_methodNamed hnamed
  have hinitP : kP.init = .initialized := Cond.initialized_spec (findClass_of_methodNamed hnamed) hkP hinit
  obtain ⟨vm₁, X₁, hstep₁⟩ := X.invokestatic hexec hown hlink hnamed hmethM hstatic hkP hinitP hy (g := g) hg (argsL := argsL) (rest := rest) (hlen _ hsigM) hstack hdg
  obtain ⟨v, B, X', hpost, hsteps⟩ := hK m meth c ⟨T.setVm vm₁, locs, cells, slots⟩ { g with stack := rest } (.invokestatic index) mk argsL.toArray X₁ hg hsize hdg hW (X₁.named hnamed) (hpre vm₁ X₁.warmed)
  exact ⟨v, vm₁, B, X₁.warmed, X', hpost, fun target h => hstep₁ _ fun acts => by rw [doInvoke_state]; exact hsteps.trans h⟩
theorem vx_runSW {y : MethodName} {bytes cc : ByteArray} {maxL nL mc ms n index : Nat} {ret : Option FieldType} {hh : List (Nat × Nat × Nat × Nat)} {ws : List Cond} {rm : Room} {Pc : Array Value → State → Prop} {Qc : Array Value → State → Outcome → State → Prop} {free : Addr → Prop} {Ts : List Cond} {own : String} {As rest : List Value} {g : JFrame}
    (S : CallFix p m c cc nL s args Ts own) (hM : Met l y ws rm Pc Qc mc ms free) (cw : vx_CSW R s args own index y bytes maxL ret hh ws rm mc ms n) (hp : PreS s H Pc As)
    (hg : g.method = m) (hn : As.length = n) (hsize : g.locals.size = nL) (hstack : g.stack = As.reverse ++ rest) (hW : 2 * g.monitorRoom + (rest.map fun v => v.category).sum ≤ 8) (hdg : decode cc g.pc = .ok (.invokestatic index, 3)) (hf : cells + mc ≤ R.cells ∧ slots + ms ≤ R.slots) :
    va_Run p l e R s m args below meth c H locs cells slots mc ms g rest (Qc As.toArray) (free) := by
  obtain ⟨⟨hrc, hrs, hfr, hlo, hws, hcw⟩, hcode, hini, hy, hlen, hl, hstt⟩ := cw
  have hK : Back l R p e below s args y 3 8 (PreOf R mc ms Pc) (PostOf Qc mc ms free) := va_backW (hh := hh) (bytes := bytes) (maxL := maxL) (ret := ret) hM hp.1 hrc hrs hfr hlo hws hcw (fun a' U hW => word_at hW (Or.inl (by first | rfl | simp [Cond.onTables, Cond.keeps, Cond.steady])) hini)
  obtain ⟨hx, hb, hml, ho, -⟩ := S
  intro T hT X
  obtain ⟨v, vm₁, ⟨U', l2, c2, s2⟩, hW₁, X', ⟨g', mk, t, L, e1, e2, hq, h1, hL, h2, h3⟩, st⟩ := vx_callSW X hx (hh := hh) (bytes := bytes) (maxL := maxL) (ret := ret) ho hl hstt hini hcode hy hK hg (hsize.trans hml.symm) (argsL := As) (rest := rest) (fun sig h => hn.trans (hlen sig h)) hstack hW (by rw [hb]; exact hdg)
    (fun vm₁ hW₁ => ⟨hf.1, hf.2, hp.2 (T.setVm vm₁) hT hW₁⟩)
  dsimp only [Pt.U, Pt.locs, Pt.cells, Pt.slots] at X' e1 e2 h1 h2 h3 st
  subst h1; subst h2; subst h3
  exact ⟨v, (T.setVm vm₁).calling g' mk As.toArray, t, U', L, hT, X', hL, e1, e2, hq, st⟩
/-- not caught here, past rows that name other classes: it goes on to the caller -/
theorem vx_outP {p : Program} {l : Launch} {e : Env} {R : Room} {s : State} {m : MethodId} {args : Array Value} {below : List Frame} {meth : Method} {c : Code} {H : Heap} {locs : List Loc} {cells slots : Nat} {free : Addr → Prop} {ls : Array Slot} {rest : List Value} {Qc : Array Value → State → Outcome → State → Prop} {XC : String → State → State → Prop}
    {pc : Nat} {own E : String} {ce : Cell} {q : Addr} {mc ms : Nat} (hown : s.vm.findClass own = some m.cls) (hlocks : meth.locks = false)
    (hpass : ∀ z ∈ c.exceptionTable.toList, covers z pc = false ∨ (z.catchType ≠ 0 ∧ ∃ nm : String, (Cond.classLink own z.catchType nm).before args s = true ∧ va_Nc E nm s)) (hcell : H[q]? = some ce) (hv : ce.vm = .none) (hcl : s.vm.findClass E = some ce.cls)
    (hx : ∀ t : State, t.heap = H → s.vm.Alike t.vm → XC E s t) (hf : ∀ z ∈ locs, free z.base) (hc : cells ≤ mc) (hs : slots ≤ ms) :
    vx_W p l e R s m args below meth c H locs cells slots (vx_MQ below Qc XC args s mc ms free) (F0 m pc ls rest) q := by
  intro T hT X
  have hpl : e.platform.magicAccessors = ({} : Platform).magicAccessors := by rw [X.admits.platform]
  obtain ⟨vm', hW', X', st⟩ := X.outThrough hlocks q (g := F0 m pc ls rest) rfl rfl rfl (cell := ce) (by rw [hT]; exact hcell) (by rw [hv]; rfl)
    (by obtain ⟨k9, h9, -⟩ := Vm.findClass_spec hcl; exact ⟨k9, h9⟩) (fun z hz => by
      rcases hpass z hz with h | ⟨hz0, nm, hl1, hn1⟩
      · exact Or.inl h
      · obtain ⟨c6, hc6, hcl6⟩ := Cond.classLink_spec hown hl1 e.platform hpl
        obtain ⟨a8, b8, h1, h2, h3⟩ := hn1
        cases Option.some.inj (h1.symm.trans hcl)
        cases Option.some.inj (h2.symm.trans hc6)
        exact Or.inr ⟨hz0, _, hcl6, h3⟩)
  obtain ⟨g₀, hfr⟩ := X'.frames_eq
  have hcell9 : ((T.setVm vm').setFrames (.throwing q :: below)).heap[q]? = some ce := by
    show T.heap[q]? = some ce
    rw [hT]; exact hcell
  have hend : Ended ((T.setVm vm').setFrames (.throwing q :: below)) below (.threw q) := State.frames_setFrames _ (State.cur_lt_of_frames hfr)
  refine ⟨(T.setVm vm').setFrames (.throwing q :: below), ?_, .threw q, X'.here.running, hend, Or.inr ⟨q, rfl, E, ce, locs, hx _ hT (X'.ends _).1.alike, hcell9, hv, hcl, (X'.ends _).1, (X'.ends _).2.mono hc hs, hf⟩⟩
  rw [X.pushThrowing_eq]
  exact st
/-- a thing of a world lies in the heap -/
theorem vx_lt {D : va_G} {cl : List vw_C} {ws : va_W} {H1 : Heap} (h : va_P D cl ws H1) {k : Nat} {q : Nat × va_E} (hk : ws[k]? = some q) : q.1 < H1.size := (h k q hk).lt
end VXS
/-! ===== END ===== -/
/-! ===== BEGIN methods with a table of their own: called by a name, returning or throwing ===== -/
section VXH
/-! vx_backW, vx_callVX, vx_callSX, vx_callVW, vx_runVW, vx_runVX, vx_runSX, vx_ofWH follow the same proofs as their sisters above (Free/Laws.lean, Shelf42/LK1.lean); vx_outP calls Shelf42/NT130.lean (outThrough). -/
section
variable {l : Launch} {R : Room} {p : Program} {e : Env} {below : List Frame} {s : State} {sargs : Array Value} {y : MethodName} {len W9 : Nat}
theorem vx_backW {ws : List Cond} {rm : Room} {Pc : Array Value → State → Prop} {Qc : Array Value → State → Outcome → State → Prop} {XC : String → State → State → Prop} {mc ms : Nat} {free : Addr → Prop} {bytes : ByteArray} {maxL : Nat} {ret : Option FieldType} {hh : List (Nat × Nat × Nat × Nat)}
    (hM : vx_Met l y ws rm Pc Qc XC mc ms free) (hblind : FrameBlind Pc) (hrc : rm.cells = mc) (hrs : rm.slots = ms)
    (hframes : rm.frames + 1 ≤ R.frames) (hlocals : W9 + (maxL + 11) + rm.locals ≤ R.locals)
    (hws : ∀ w ∈ ws, ∀ a' U, s.WarmedH U.vm → w.before a' U = true) (hcode : Cond.codeWith y bytes maxL ret hh ∈ ws) (hinit : ∀ a' U, s.WarmedH U.vm → (Cond.initialized y.cls).before a' U = true) :
    vx_Back l R p e below s sargs y len W9 (PreOf R mc ms Pc) (PostOf Qc mc ms free) (vx_Post XC mc ms free) := by
  intro m meth c A g ig mk a X hg hsize hdg hW hn hp
  have h1 : (headSpec ws rm).pre.before a A.U = true := atoms_intro fun w hw => hws w hw _ _ X.warmed
  have h2 : (Cond.codeWith y bytes maxL ret hh).before a A.U = true := hws _ hcode _ _ X.warmed
  have h3 : (Cond.initialized y.cls).before a A.U = true := hinit _ _ X.warmed
  have h4 : A.cells + (headSpec ws rm).room.cells ≤ R.cells := by rw [show (headSpec ws rm).room.cells = mc from hrc]; exact hp.1
  have h5 : A.slots + (headSpec ws rm).room.slots ≤ R.slots := by rw [show (headSpec ws rm).room.slots = ms from hrs]; exact hp.2.1
  have hPc : Pc a (A.U.calling g mk a) := hblind _ _ _ _ hp.2.2
  obtain ⟨U, Ls, c0, s0⟩ := A
  dsimp only [Pt.U, Pt.locs, Pt.cells, Pt.slots] at h1 h2 h3 h4 h5 X hn hPc ⊢
  obtain ⟨m9, methY, cY, hn9, hmY, hcY, -, hlY, -⟩ := Cond.codeWith_spec h2
  cases Option.some.inj (hn9.symm.trans hn)
  obtain ⟨kY, hkY, -⟩ := className_of_methodNamed hn
  have hinitY : kY.init = .initialized := Cond.initialized_spec (findClass_of_methodNamed hn) hkY h3
  have h : At U g.method c below := by rw [hg]; exact X.here
  have hlocals9 : W9 + (maxL + 11) + (headSpec ws rm).room.locals ≤ R.locals := hlocals
  have happ : (headSpec ws rm).appliesLoose y e.platform (U.calling g mk a) = true :=
    Spec.appliesLoose_calling (g := g) h hdg hn hkY hinitY
      (X.room_calling (g := g) (R' := (headSpec ws rm).room) hsize hmY hcY hframes (by rw [hlY]; omega) h4 h5) h1
  obtain ⟨mid, hmid⟩ := h.above
  have hfr : (U.setTop g).frames = (.java g :: mid) ++ below := by rw [State.frames_setTop' g h.top, hmid]; rfl
  obtain ⟨o, s₂, hsteps, -, hend, hq⟩ := Steps.callFree hM p X.admits X.cas X.clock (acts := []) hfr happ hPc trivial
  have hq' : vx_Q Qc XC mc ms free a (U.calling g mk a) o s₂ := hq
  rw [State.frames_setTop' g h.top] at hend
  obtain ⟨g₀, hg0⟩ := Option.isSome_iff_exists.mp h.top
  obtain ⟨r, hr⟩ := State.topJava?_eq_some.mp hg0
  have hr' : (({ U with heap := s₂.heap, slotsUsed := s₂.slotsUsed } : State).setVm s₂.vm).frames = .java g₀ :: r := hr
  rcases hq' with ⟨hqc, L, hfe, hL⟩ | ⟨q, rfl, E, ce, L, hx, hce, hcv, hcl, hW₂, hsm, hL⟩
  · obtain ⟨⟨v, rfl⟩, hW₂, e2, q2, q3, q4, q5, q6⟩ := id hfe
    have e3 : s₂ = ({ (U.calling g mk a).setFrames s₂.frames with heap := s₂.heap, slotsUsed := s₂.slotsUsed } : State).setVm s₂.vm := by
      have : s₂ = ({ s₂ with vm := (U.calling g mk a).vm } : State).setVm s₂.vm := rfl
      rw [e2] at this
      exact this
    obtain ⟨c₂, i₂, len₂, hc₂, hd₂, hf₂⟩ := hend
    have hW' : U.WarmedH s₂.vm := hW₂
    have hcc : c₂ = c := by
      have h1 : s₂.code? g.method = U.code? g.method := by
        rw [State.code?_eq, State.code?_eq, hW'.alike.method?]
      exact Option.some.inj (hc₂.symm.trans (h1.trans h.code))
    subst hcc
    have hlen : len₂ = len := by rw [hdg] at hd₂; cases hd₂; rfl
    subst hlen
    have hs₂ : s₂ = (({ U with heap := s₂.heap, slotsUsed := s₂.slotsUsed } : State).setVm s₂.vm).setTop { g with pc := g.pc + len₂, stack := v.toList ++ g.stack } := by
      refine e3.trans ?_
      rw [hf₂, State.calling_eq h.top, State.setFrames_setFrames, State.setTop_of_frames _ hr', hr]
      rfl
    have hsame : U.sameButNew ({ U with heap := s₂.heap, slotsUsed := s₂.slotsUsed } : State) L mc ms := by
      refine ⟨?_, q2, q3, q4, q5, q6⟩
      obtain ⟨t, ht, -⟩ := State.frames_cons hr
      show ({ U with heap := s₂.heap, slotsUsed := s₂.slotsUsed } : State) = { U.setFrames U.frames with heap := s₂.heap, slotsUsed := s₂.slotsUsed }
      rw [State.setFrames_self ht]
    subst hg
    refine Or.inl ⟨v, ⟨(({ U with heap := s₂.heap, slotsUsed := s₂.slotsUsed } : State).setVm s₂.vm), Ls ++ L, c0 + mc, s0 + ms⟩,
      ⟨X.admits, X.cas, X.clock, X.frames, X.room, X.hears, X.method, X.code, (X.here.setHeapUsed s₂.heap s₂.slotsUsed).setVm hW'.alike, X.tail, State.WarmedH.trans X.warmed hW', X.limits, X.bytes, X.same.trans (hsame.setVm s.vm)⟩,
      ⟨g, mk, s₂, L, rfl, rfl, hqc, rfl, hL, rfl, rfl⟩, ?_⟩
    show Steps p.tables e below _ ((({ U with heap := s₂.heap, slotsUsed := s₂.slotsUsed } : State).setVm s₂.vm).setTop { g with pc := g.pc + len₂, stack := v.toList ++ g.stack })
    rw [← hs₂]
    exact hsteps
  · obtain ⟨e2, q2, q3, q4, q5, q6⟩ := id hsm
    have e3 : s₂ = ({ (U.calling g mk a).setFrames s₂.frames with heap := s₂.heap, slotsUsed := s₂.slotsUsed } : State).setVm s₂.vm := by
      have : s₂ = ({ s₂ with vm := (U.calling g mk a).vm } : State).setVm s₂.vm := rfl
      rw [e2] at this
      exact this
    have hf₂ : s₂.frames = .throwing q :: .java g :: U.frames.tail := hend
    have hW' : U.WarmedH s₂.vm := hW₂
    have hs₂ : s₂ = ((({ U with heap := s₂.heap, slotsUsed := s₂.slotsUsed } : State).setVm s₂.vm).setTop g).pushFrame (.throwing q) := by
      refine e3.trans ?_
      rw [hf₂, State.calling_eq h.top, State.setFrames_setFrames, State.pushFrame, State.frames_setTop _ hr', State.setTop_of_frames _ hr', State.setFrames_setFrames, hr]
      rfl
    have hsame : U.sameButNew ({ U with heap := s₂.heap, slotsUsed := s₂.slotsUsed } : State) L mc ms := by
      refine ⟨?_, q2, q3, q4, q5, q6⟩
      obtain ⟨t, ht, -⟩ := State.frames_cons hr
      show ({ U with heap := s₂.heap, slotsUsed := s₂.slotsUsed } : State) = { U.setFrames U.frames with heap := s₂.heap, slotsUsed := s₂.slotsUsed }
      rw [State.setFrames_self ht]
    subst hg
    refine Or.inr ⟨q, ⟨(({ U with heap := s₂.heap, slotsUsed := s₂.slotsUsed } : State).setVm s₂.vm), Ls ++ L, c0 + mc, s0 + ms⟩,
      ⟨X.admits, X.cas, X.clock, X.frames, X.room, X.hears, X.method, X.code, (X.here.setHeapUsed s₂.heap s₂.slotsUsed).setVm hW'.alike, X.tail, State.WarmedH.trans X.warmed hW', X.limits, X.bytes, X.same.trans (hsame.setVm s.vm)⟩,
      ⟨g, mk, s₂, L, E, ce, rfl, rfl, hx, hce, hcv, hcl, rfl, hL, rfl, rfl⟩, ?_⟩
    show Steps p.tables e below _ (((({ U with heap := s₂.heap, slotsUsed := s₂.slotsUsed } : State).setVm s₂.vm).setTop g).pushFrame (.throwing q))
    rw [← hs₂]
    exact hsteps
end
variable {p : Program} {l : Launch} {e : Env} {R : Room} {s : State} {m : MethodId} {args : Array Value} {below : List Frame} {meth : Method} {c : Code} {T : State} {H : Heap} {locs : List Loc} {cells slots : Nat}
theorem vx_callVX (X : Stand p l e R s m args below meth c T locs cells slots) (hexec : p.tables.exec = Jvm.exec) {own C : String} {index : Nat} {y : MethodName} {bytes : ByteArray} {maxL : Nat} {ret : Option FieldType} {hh : List (Nat × Nat × Nat × Nat)}
    (hown : s.vm.findClass own = some m.cls) (hlink : (Cond.methodLink own index y).before args s = true) (hinst : (Cond.instanceMethod y).before args s = true) (hsel : (Cond.selects C y y).before args s = true)
    (hcode : (Cond.codeWith y bytes maxL ret hh).before args s = true) (hy : y.cls ≠ "java/lang/invoke/MethodHandle" ∧ y.cls ≠ "java/lang/invoke/VarHandle")
    {W9 : Nat} {Pre : Pt → Array Value → Prop} {Post : Pt → Array Value → Option Value → Pt → Prop} {PostX : Pt → Array Value → Addr → Pt → Prop} (hK : vx_Back l R p e below s args y 3 W9 Pre Post PostX)
    {b : Addr} {cellB : Cell} (hcell : T.heap[b]? = some cellB) (hobj : cellB.vm.isStatics = false) (hcls : s.vm.findClass C = some cellB.cls)
    {g : JFrame} (hg : g.method = m) (hsize : g.locals.size = c.maxLocals) {argsL rest : List Value} (hlen : ∀ sig, parseMethodDescriptor y.desc = some sig → argsL.length = sig.parameters.length)
    (hstack : g.stack = argsL.reverse ++ .ref b :: rest) (hW : 2 * g.monitorRoom + (rest.map fun v => v.category).sum ≤ W9) (hdg : decode c.code g.pc = .ok (.invokevirtual index, 3))
    (hpre : ∀ vm₁, s.WarmedH vm₁ → Pre ⟨T.setVm vm₁, locs, cells, slots⟩ (Value.ref b :: argsL).toArray) :
    (∃ (v : Option Value) (vm₁ : Vm) (B : Pt), s.WarmedH vm₁ ∧ Stand p l e R s m args below meth c B.U B.locs B.cells B.slots ∧ Post ⟨T.setVm vm₁, locs, cells, slots⟩ (Value.ref b :: argsL).toArray v B ∧
      ∀ target, Steps p.tables e below (B.U.setTop { g with pc := g.pc + 3, stack := v.toList ++ rest }) target → Steps p.tables e below (T.setTop g) target) ∨
    (∃ (q : Addr) (vm₁ : Vm) (B : Pt), s.WarmedH vm₁ ∧ Stand p l e R s m args below meth c B.U B.locs B.cells B.slots ∧ PostX ⟨T.setVm vm₁, locs, cells, slots⟩ (Value.ref b :: argsL).toArray q B ∧
      Steps p.tables e below (T.setTop g) ((B.U.setTop { g with stack := rest }).pushFrame (.throwing q))) := by
  obtain ⟨mk, methM, hnamed, hmethM, hstM, habM⟩ := Cond.instanceMethod_spec hinst
  obtain ⟨m8, methM', cM, hn8, hmethM', -, -, -, -, -, -, hsigM⟩ := Cond.codeWith_spec hcode
  cases Option.some.inj (hn8.symm.trans hnamed)
  cases hmethM.symm.trans hmethM'
  obtain ⟨c2, r2, m2, q1, q2, q3, q4, kP, hkP, hkPi⟩ := Cond.selects_spec hsel
  cases hcls.symm.trans q1
  cases (State.methodFound?_of_named hnamed hy).symm.trans q2
  cases hnamed.symm.trans q3
  have hselP : selectMethod e.platform s.vm cellB.cls mk = .method mk := by rw [Launch.admits_selectMethod X.admits]; exact q4
  obtain ⟨vm₁, X₁, hstep₁⟩ := X.invokevirtual hexec hown hlink hnamed hmethM hstM hkP hkPi hy (a := b) (cell := cellB) hcell
    (fun z h => by rw [h] at hobj; cases hobj) hselP hmethM habM hkP hkPi (g := g) hg (argsL := argsL) (rest := rest) (hlen _ hsigM) hstack hdg
  rcases hK m meth c ⟨T.setVm vm₁, locs, cells, slots⟩ { g with stack := rest } (.invokevirtual index) mk (Value.ref b :: argsL).toArray X₁ hg hsize hdg hW (X₁.named hnamed) (hpre vm₁ X₁.warmed) with ⟨v, B, X', hpost, hsteps⟩ | ⟨q, B, X', hpost, hsteps⟩
  · exact Or.inl ⟨v, vm₁, B, X₁.warmed, X', hpost, fun target h => hstep₁ _ fun acts => by rw [doInvoke_state]; exact hsteps.trans h⟩
  · exact Or.inr ⟨q, vm₁, B, X₁.warmed, X', hpost, hstep₁ _ fun acts => by rw [doInvoke_state]; exact hsteps⟩
theorem vx_callSX (X : Stand p l e R s m args below meth c T locs cells slots) (hexec : p.tables.exec = Jvm.exec) {own : String} {index : Nat} {y : MethodName} {bytes : ByteArray} {maxL : Nat} {ret : Option FieldType} {hh : List (Nat × Nat × Nat × Nat)}
    (hown : s.vm.findClass own = some m.cls) (hlink : (Cond.methodLink own index y).before args s = true) (hstat : (Cond.static y).before args s = true) (hinit : (Cond.initialized y.cls).before args s = true)
    (hcode : (Cond.codeWith y bytes maxL ret hh).before args s = true) (hy : y.cls ≠ "java/lang/invoke/MethodHandle" ∧ y.cls ≠ "java/lang/invoke/VarHandle")
    {W9 : Nat} {Pre : Pt → Array Value → Prop} {Post : Pt → Array Value → Option Value → Pt → Prop} {PostX : Pt → Array Value → Addr → Pt → Prop} (hK : vx_Back l R p e below s args y 3 W9 Pre Post PostX)
    {g : JFrame} (hg : g.method = m) (hsize : g.locals.size = c.maxLocals) {argsL rest : List Value} (hlen : ∀ sig, parseMethodDescriptor y.desc = some sig → argsL.length = sig.parameters.length)
    (hstack : g.stack = argsL.reverse ++ rest) (hW : 2 * g.monitorRoom + (rest.map fun v => v.category).sum ≤ W9) (hdg : decode c.code g.pc = .ok (.invokestatic index, 3))
    (hpre : ∀ vm₁, s.WarmedH vm₁ → Pre ⟨T.setVm vm₁, locs, cells, slots⟩ argsL.toArray) :
    (∃ (v : Option Value) (vm₁ : Vm) (B : Pt), s.WarmedH vm₁ ∧ Stand p l e R s m args below meth c B.U B.locs B.cells B.slots ∧ Post ⟨T.setVm vm₁, locs, cells, slots⟩ argsL.toArray v B ∧
      ∀ target, Steps p.tables e below (B.U.setTop { g with pc := g.pc + 3, stack := v.toList ++ rest }) target → Steps p.tables e below (T.setTop g) target) ∨
    (∃ (q : Addr) (vm₁ : Vm) (B : Pt), s.WarmedH vm₁ ∧ Stand p l e R s m args below meth c B.U B.locs B.cells B.slots ∧ PostX ⟨T.setVm vm₁, locs, cells, slots⟩ argsL.toArray q B ∧
      Steps p.tables e below (T.setTop g) ((B.U.setTop { g with stack := rest }).pushFrame (.throwing q))) := by
  obtain ⟨mk, methM, cM, hnamed, hmethM, -, -, -, -, -, -, hsigM⟩ := Cond.codeWith_spec hcode
  have hstatic : methM.isStatic = true := Cond.static_spec hnamed hmethM hstat
  obtain ⟨kP, hkP, -⟩ := className_of_methodNamed hnamed
  have hinitP : kP.init = .initialized := Cond.initialized_spec (findClass_of_methodNamed hnamed) hkP hinit
  obtain ⟨vm₁, X₁, hstep₁⟩ := X.invokestatic hexec hown hlink hnamed hmethM hstatic hkP hinitP hy (g := g) hg (argsL := argsL) (rest := rest) (hlen _ hsigM) hstack hdg
  rcases hK m meth c ⟨T.setVm vm₁, locs, cells, slots⟩ { g with stack := rest } (.invokestatic index) mk argsL.toArray X₁ hg hsize hdg hW (X₁.named hnamed) (hpre vm₁ X₁.warmed) with ⟨v, B, X', hpost, hsteps⟩ | ⟨q, B, X', hpost, hsteps⟩
  · exact Or.inl ⟨v, vm₁, B, X₁.warmed, X', hpost, fun target h => hstep₁ _ fun acts => by rw [doInvoke_state]; exact hsteps.trans h⟩
  · exact Or.inr ⟨q, vm₁, B, X₁.warmed, X', hpost, hstep₁ _ fun acts => by rw [doInvoke_state]; exact hsteps⟩
theorem vx_callVW (X : Stand p l e R s m args below meth c T locs cells slots) (hexec : p.tables.exec = Jvm.exec) {own C : String} {index : Nat} {y : MethodName} {bytes : ByteArray} {maxL : Nat} {ret : Option FieldType} {hh : List (Nat × Nat × Nat × Nat)}
    (hown : s.vm.findClass own = some m.cls) (hlink : (Cond.methodLink own index y).before args s = true) (hinst : (Cond.instanceMethod y).before args s = true) (hsel : (Cond.selects C y y).before args s = true)
    (hcode : (Cond.codeWith y bytes maxL ret hh).before args s = true) (hy : y.cls ≠ "java/lang/invoke/MethodHandle" ∧ y.cls ≠ "java/lang/invoke/VarHandle")
    {W9 : Nat} {Pre : Pt → Array Value → Prop} {Post : Pt → Array Value → Option Value → Pt → Prop} (hK : Back l R p e below s args y 3 W9 Pre Post)
    {b : Addr} {cellB : Cell} (hcell : T.heap[b]? = some cellB) (hobj : cellB.vm.isStatics = false) (hcls : s.vm.findClass C = some cellB.cls)
    {g : JFrame} (hg : g.method = m) (hsize : g.locals.size = c.maxLocals) {argsL rest : List Value} (hlen : ∀ sig, parseMethodDescriptor y.desc = some sig → argsL.length = sig.parameters.length)
    (hstack : g.stack = argsL.reverse ++ .ref b :: rest) (hW : 2 * g.monitorRoom + (rest.map fun v => v.category).sum ≤ W9) (hdg : decode c.code g.pc = .ok (.invokevirtual index, 3))
    (hpre : ∀ vm₁, s.WarmedH vm₁ → Pre ⟨T.setVm vm₁, locs, cells, slots⟩ (Value.ref b :: argsL).toArray) :
    ∃ (v : Option Value) (vm₁ : Vm) (B : Pt), s.WarmedH vm₁ ∧ Stand p l e R s m args below meth c B.U B.locs B.cells B.slots ∧ Post ⟨T.setVm vm₁, locs, cells, slots⟩ (Value.ref b :: argsL).toArray v B ∧
      ∀ target, Steps p.tables e below (B.U.setTop { g with pc := g.pc + 3, stack := v.toList ++ rest }) target → Steps p.tables e below (T.setTop g) target := by
  obtain ⟨mk, methM, hnamed, hmethM, hstM, habM⟩ := Cond.instanceMethod_spec hinst
  obtain ⟨m8, methM', cM, hn8, hmethM', -, -, -, -, -, -, hsigM⟩ := Cond.codeWith_spec hcode
  cases Option.some.inj (hn8.symm.trans hnamed)
  cases hmethM.symm.trans hmethM'
  obtain ⟨c2, r2, m2, q1, q2, q3, q4, kP, hkP, hkPi⟩ := Cond.selects_spec hsel
  cases hcls.symm.trans q1
  cases (State.methodFound?_of_named hnamed hy).symm.trans q2
  cases hnamed.symm.trans q3
  have hselP : selectMethod e.platform s.vm cellB.cls mk = .method mk := by rw [Launch.admits_selectMethod X.admits]; exact q4
  obtain ⟨vm₁, X₁, hstep₁⟩ := X.invokevirtual hexec hown hlink hnamed hmethM hstM hkP hkPi hy (a := b) (cell := cellB) hcell
    (fun z h => by rw [h] at hobj; cases hobj) hselP hmethM habM hkP hkPi (g := g) hg (argsL := argsL) (rest := rest) (hlen _ hsigM) hstack hdg
  obtain ⟨v, B, X', hpost, hsteps⟩ := hK m meth c ⟨T.setVm vm₁, locs, cells, slots⟩ { g with stack := rest } (.invokevirtual index) mk (Value.ref b :: argsL).toArray X₁ hg hsize hdg hW (X₁.named hnamed) (hpre vm₁ X₁.warmed)
  exact ⟨v, vm₁, B, X₁.warmed, X', hpost, fun target h => hstep₁ _ fun acts => by rw [doInvoke_state]; exact hsteps.trans h⟩
abbrev vx_CVW (R : Room) (s : State) (args : Array Value) (own C : String) (index : Nat) (y : MethodName) (bytes : ByteArray) (maxL : Nat) (ret : Option FieldType) (hh : List (Nat × Nat × Nat × Nat)) (ws : List Cond) (rm : Room) (mc ms n : Nat) : Prop :=
  (rm.cells = mc ∧ rm.slots = ms ∧ rm.frames + 1 ≤ R.frames ∧ 8 + (maxL + 11) + rm.locals ≤ R.locals ∧ (∀ w ∈ ws, ∀ (a' : Array Value) (U : State), s.WarmedH U.vm → w.before a' U = true) ∧ Cond.codeWith y bytes maxL ret hh ∈ ws) ∧
  (Cond.codeWith y bytes maxL ret hh).before args s = true ∧ (Cond.initialized y.cls).before args s = true ∧ (y.cls ≠ "java/lang/invoke/MethodHandle" ∧ y.cls ≠ "java/lang/invoke/VarHandle") ∧
  (∀ sig, parseMethodDescriptor y.desc = some sig → n = sig.parameters.length) ∧ (Cond.methodLink own index y).before args s = true ∧ (Cond.instanceMethod y).before args s = true ∧ (Cond.selects C y y).before args s = true
theorem vx_cwVW {own C : String} {index maxL mc ms : Nat} {y : MethodName} {bytes : ByteArray} {ret : Option FieldType} {hh : List (Nat × Nat × Nat × Nat)} {Ts ws ws' : List Cond} {rm : Room} (n : Nat) (ht : ∀ w ∈ Ts, w.before args s = true) (hT : GoodIn Ts (wsV own index C y ws)) (hw : ws = Cond.codeWith y bytes maxL ret hh :: ws') (hrc : rm.cells = mc) (hrs : rm.slots = ms)
    (hd : y.cls = C ∧ y.cls ≠ "java/lang/invoke/MethodHandle" ∧ y.cls ≠ "java/lang/invoke/VarHandle" ∧ (parseMethodDescriptor y.desc).map (fun d => d.parameters.length) = some n) (hR : rm.frames + 1 ≤ R.frames ∧ 8 + (maxL + 11) + rm.locals ≤ R.locals) :
    vx_CVW R s args own C index y bytes maxL ret hh ws rm mc ms n := by
  obtain ⟨hC, hd⟩ := hd
  subst hC
  have ok : ∀ w ∈ wsV own index y.cls y ws, w.before args s = true := fun w h => ht w (hT w h).1
  have hG : GoodIn Ts ws := fun w h => hT w (by unfold wsV; exact List.mem_append_right _ h)
  have hc : Cond.codeWith y bytes maxL ret hh ∈ ws := by rw [hw]; exact List.mem_cons_self
  refine ⟨⟨hrc, hrs, hR.1, hR.2, pay_in ht hG, hc⟩, ht _ (hG _ hc).1, ok _ (by simp [wsV]), ⟨hd.1, hd.2.1⟩, fun sig h => ?_, ok _ (by simp [wsV]), ok _ (by simp [wsV]), ok _ (by simp [wsV])⟩
  have h2 := hd.2.2
  rw [h] at h2
  exact (Option.some.inj h2).symm
theorem vx_runVW {y : MethodName} {bytes cc : ByteArray} {maxL nL mc ms n index : Nat} {ret : Option FieldType} {hh : List (Nat × Nat × Nat × Nat)} {ws : List Cond} {rm : Room} {Pc : Array Value → State → Prop} {Qc : Array Value → State → Outcome → State → Prop} {free : Addr → Prop} {Ts : List Cond} {own C : String} {b : Addr} {As rest : List Value} {g : JFrame}
    (S : CallFix p m c cc nL s args Ts own) (hM : Met l y ws rm Pc Qc mc ms free) (cw : vx_CVW R s args own C index y bytes maxL ret hh ws rm mc ms n) (hp : PreV s H C b Pc As)
    (hg : g.method = m) (hn : As.length = n) (hsize : g.locals.size = nL) (hstack : g.stack = As.reverse ++ .ref b :: rest) (hW : 2 * g.monitorRoom + (rest.map fun v => v.category).sum ≤ 8) (hdg : decode cc g.pc = .ok (.invokevirtual index, 3)) (hf : cells + mc ≤ R.cells ∧ slots + ms ≤ R.slots) :
    va_Run p l e R s m args below meth c H locs cells slots mc ms g rest (Qc (Value.ref b :: As).toArray) free := by
  obtain ⟨⟨hrc, hrs, hfr, hlo, hws, hcw⟩, hcode, hini, hy, hlen, hl, hin, hse⟩ := cw
  have hK : Back l R p e below s args y 3 8 (PreOf R mc ms Pc) (PostOf Qc mc ms free) := va_backW (hh := hh) (bytes := bytes) (maxL := maxL) (ret := ret) hM hp.1 hrc hrs hfr hlo hws hcw (fun a' U hW => word_at hW (Or.inl (by first | rfl | simp [Cond.onTables, Cond.keeps, Cond.steady])) hini)
  obtain ⟨hx, hb, hml, ho, -⟩ := S
  obtain ⟨-, ⟨cellB, hcB, hoB, hclB⟩, hPc⟩ := hp
  intro T hT X
  obtain ⟨v, vm₁, ⟨U', l2, c2, s2⟩, hW₁, X', ⟨g', mk, t, L, e1, e2, hq, h1, hL, h2, h3⟩, st⟩ := vx_callVW X hx (C := C) (hh := hh) (bytes := bytes) (maxL := maxL) (ret := ret) ho hl hin hse hcode hy hK (by rw [hT]; exact hcB) hoB hclB hg (hsize.trans hml.symm) (argsL := As) (rest := rest) (fun sig h => hn.trans (hlen sig h)) hstack hW (by rw [hb]; exact hdg)
    (fun vm₁ hW₁ => ⟨hf.1, hf.2, hPc (T.setVm vm₁) hT hW₁⟩)
  dsimp only [Pt.U, Pt.locs, Pt.cells, Pt.slots] at X' e1 e2 h1 h2 h3 st
  subst h1; subst h2; subst h3
  exact ⟨v, (T.setVm vm₁).calling g' mk (Value.ref b :: As).toArray, t, U', L, hT, X', hL, e1, e2, hq, st⟩
section
variable {y : MethodName} {bytes cc : ByteArray} {maxL nL mc ms n index : Nat} {ret : Option FieldType} {ws : List Cond} {rm : Room} {Pc : Array Value → State → Prop} {Qc : Array Value → State → Outcome → State → Prop} {XC : String → State → State → Prop} {free : Addr → Prop} {Ts : List Cond} {own C : String} {b : Addr} {As rest : List Value} {g : JFrame}
theorem vx_runVX {hh : List (Nat × Nat × Nat × Nat)} (S : CallFix p m c cc nL s args Ts own) (hM : vx_Met l y ws rm Pc Qc XC mc ms free) (cw : vx_CVW R s args own C index y bytes maxL ret hh ws rm mc ms n) (hp : PreV s H C b Pc As)
    (hg : g.method = m) (hn : As.length = n) (hsize : g.locals.size = nL) (hstack : g.stack = As.reverse ++ .ref b :: rest) (hW : 2 * g.monitorRoom + (rest.map fun v => v.category).sum ≤ 8) (hdg : decode cc g.pc = .ok (.invokevirtual index, 3)) (hf : cells + mc ≤ R.cells ∧ slots + ms ≤ R.slots) :
    vx_Run p l e R s m args below meth c H locs cells slots mc ms g rest (Qc (Value.ref b :: As).toArray) XC free := by
  obtain ⟨⟨hrc, hrs, hfr, hlo, hws, hcw⟩, hcode, hini, hy, hlen, hl, hin, hse⟩ := cw
  have hK : vx_Back l R p e below s args y 3 8 (PreOf R mc ms Pc) (PostOf Qc mc ms free) (vx_Post XC mc ms free) := vx_backW (hh := hh) (bytes := bytes) (maxL := maxL) (ret := ret) hM hp.1 hrc hrs hfr hlo hws hcw (fun a' U hW => word_at hW (Or.inl (by first | rfl | simp [Cond.onTables, Cond.keeps, Cond.steady])) hini)
  obtain ⟨hx, hb, hml, ho, -⟩ := S
  obtain ⟨-, ⟨cellB, hcB, hoB, hclB⟩, hPc⟩ := hp
  intro T hT X
  rcases vx_callVX X hx (C := C) (hh := hh) (bytes := bytes) (maxL := maxL) (ret := ret) ho hl hin hse hcode hy hK (by rw [hT]; exact hcB) hoB hclB hg (hsize.trans hml.symm) (argsL := As) (rest := rest) (fun sig h => hn.trans (hlen sig h)) hstack hW (by rw [hb]; exact hdg)
    (fun vm₁ hW₁ => ⟨hf.1, hf.2, hPc (T.setVm vm₁) hT hW₁⟩) with ⟨v, vm₁, ⟨U', l2, c2, s2⟩, hW₁, X', ⟨g', mk, t, L, e1, e2, hq, h1, hL, h2, h3⟩, st⟩ | ⟨q, vm₁, ⟨U', l2, c2, s2⟩, hW₁, X', ⟨g', mk, t, L, E, ce, e1, e2, hq, hce, hcv, hcl, h1, hL, h2, h3⟩, st⟩
  · dsimp only [Pt.U, Pt.locs, Pt.cells, Pt.slots] at X' e1 e2 h1 h2 h3 st
    subst h1; subst h2; subst h3
    exact Or.inl ⟨v, (T.setVm vm₁).calling g' mk (Value.ref b :: As).toArray, t, U', L, hT, X', hL, e1, e2, hq, st⟩
  · dsimp only [Pt.U, Pt.locs, Pt.cells, Pt.slots] at X' e1 e2 h1 h2 h3 st hcl
    subst h1; subst h2; subst h3
    exact Or.inr ⟨q, (T.setVm vm₁).calling g' mk (Value.ref b :: As).toArray, t, U', L, E, ce, hT, X', hL, e1, e2, hq, hce, hcv, vx_cls hW₁ hcl, st⟩
theorem vx_runSX {hh : List (Nat × Nat × Nat × Nat)} (S : CallFix p m c cc nL s args Ts own) (hM : vx_Met l y ws rm Pc Qc XC mc ms free) (cw : vx_CSW R s args own index y bytes maxL ret hh ws rm mc ms n) (hp : PreS s H Pc As)
    (hg : g.method = m) (hn : As.length = n) (hsize : g.locals.size = nL) (hstack : g.stack = As.reverse ++ rest) (hW : 2 * g.monitorRoom + (rest.map fun v => v.category).sum ≤ 8) (hdg : decode cc g.pc = .ok (.invokestatic index, 3)) (hf : cells + mc ≤ R.cells ∧ slots + ms ≤ R.slots) :
    vx_Run p l e R s m args below meth c H locs cells slots mc ms g rest (Qc As.toArray) XC free := by
  obtain ⟨⟨hrc, hrs, hfr, hlo, hws, hcw⟩, hcode, hini, hy, hlen, hl, hstt⟩ := cw
  have hK : vx_Back l R p e below s args y 3 8 (PreOf R mc ms Pc) (PostOf Qc mc ms free) (vx_Post XC mc ms free) := vx_backW (hh := hh) (bytes := bytes) (maxL := maxL) (ret := ret) hM hp.1 hrc hrs hfr hlo hws hcw (fun a' U hW => word_at hW (Or.inl (by first | rfl | simp [Cond.onTables, Cond.keeps, Cond.steady])) hini)
  obtain ⟨hx, hb, hml, ho, -⟩ := S
  intro T hT X
  rcases vx_callSX X hx (hh := hh) (bytes := bytes) (maxL := maxL) (ret := ret) ho hl hstt hini hcode hy hK hg (hsize.trans hml.symm) (argsL := As) (rest := rest) (fun sig h => hn.trans (hlen sig h)) hstack hW (by rw [hb]; exact hdg)
    (fun vm₁ hW₁ => ⟨hf.1, hf.2, hp.2 (T.setVm vm₁) hT hW₁⟩) with ⟨v, vm₁, ⟨U', l2, c2, s2⟩, hW₁, X', ⟨g', mk, t, L, e1, e2, hq, h1, hL, h2, h3⟩, st⟩ | ⟨q, vm₁, ⟨U', l2, c2, s2⟩, hW₁, X', ⟨g', mk, t, L, E, ce, e1, e2, hq, hce, hcv, hcl, h1, hL, h2, h3⟩, st⟩
  · dsimp only [Pt.U, Pt.locs, Pt.cells, Pt.slots] at X' e1 e2 h1 h2 h3 st
    subst h1; subst h2; subst h3
    exact Or.inl ⟨v, (T.setVm vm₁).calling g' mk As.toArray, t, U', L, hT, X', hL, e1, e2, hq, st⟩
  · dsimp only [Pt.U, Pt.locs, Pt.cells, Pt.slots] at X' e1 e2 h1 h2 h3 st hcl
    subst h1; subst h2; subst h3
    exact Or.inr ⟨q, (T.setVm vm₁).calling g' mk As.toArray, t, U', L, E, ce, hT, X', hL, e1, e2, hq, hce, hcv, vx_cls hW₁ hcl, st⟩
end
end VXH
theorem vx_ofWH {l : Launch} {y : MethodName} {ws ws' : List Cond} {rm : Room} {Pc : Array Value → State → Prop} {Qc : Array Value → State → Outcome → State → Prop} {XC : String → State → State → Prop} {mc ms : Nat} {free : Addr → Prop} {cc : ByteArray} {maxL : Nat} {ret : Option FieldType} {hh : List (Nat × Nat × Nat × Nat)}
    (hy : plainName y.cls = true) (hw : ws = Cond.codeWith y cc maxL ret hh :: ws')
    (body : ∀ p e s m args below meth c s₁, BodyLoose p l y (headSpec ws rm) cc maxL ret e s m args below meth c s₁ → c.maxLocals = maxL → Pc args s →
      W p l e (headSpec ws rm).room s m args below meth c s.heap [] 0 0 (vx_MQ below Qc XC args s mc ms free) (entryFrame m args maxL)) : vx_Met l y ws rm Pc Qc XC mc ms free := by
  refine MetFree.of_bodyS (code := cc) (maxLocals := maxL) (ret := ret) hy ?_ ?_
  · intro args s m h hn
    obtain ⟨m9, meth, c, hn9, h1, h2, h3, h4, -, h5, h6, -⟩ := Cond.codeWith_spec (atoms_spec (ws := ws) h _ (by rw [hw]; exact List.mem_cons_self))
    cases hn.symm.trans hn9
    exact ⟨meth, c, h1, h2, h3, h4, h5, h6⟩
  · intro p e s m args below meth c s₁ B hml hP _
    have hh0 : s₁.heap = s.heap := by rw [B.state]; rfl
    obtain ⟨t, a1, o, b1, b2, b3⟩ := body p e s m args below meth c s₁ B hml hP s₁ hh0 (Stand.of_body B)
    exact ⟨t, o, a1, b1, b2, b3⟩
/-! ===== END ===== -/

/-! ===== BEGIN printed: names, fields, word lists, decode rows ===== -/
def RX0 : String := "HarborTides$Log"
def TX0 : u_T := fun k => match k with
  | _ => ("HarborTides$Log", "begun", "Ljava/util/ArrayList;", true)
def tyX0 : Nat → FieldType := fun k => match k with
  | _ => .object "java/util/ArrayList"
abbrev wsX00 : List Cond := u_ws RX0 TX0 1
theorem nmX0 : ∀ a, a < 1 → ∀ b, b < 1 → a ≠ b → (TX0 a).2.1 ≠ (TX0 b).2.1 := by decide +kernel
theorem tyX0_ok : ∀ k, k < 1 → parseFieldDescriptor (TX0 k).2.2.1 = some (tyX0 k) := by decide +kernel
abbrev cX0_init : ByteArray := prog_2_method_1_code
def yX0_init : MethodName := ⟨RX0, "<init>", "()V"⟩
abbrev cX0_count : ByteArray := prog_2_method_2_code
def yX0_count : MethodName := ⟨RX0, "count", "()I"⟩
abbrev cX0_at : ByteArray := prog_2_method_3_code
def yX0_at : MethodName := ⟨RX0, "at", "(I)LHarborTides$Move;"⟩
abbrev cX0_note : ByteArray := prog_2_method_4_code
def yX0_note : MethodName := ⟨RX0, "note", "(LHarborTides$Move;)V"⟩
abbrev cX0_hasMoveAt : ByteArray := prog_2_method_5_code
def yX0_hasMoveAt : MethodName := ⟨RX0, "hasMoveAt", "(I)Z"⟩
abbrev cX0_pilotIsReady : ByteArray := prog_2_method_6_code
def yX0_pilotIsReady : MethodName := ⟨RX0, "pilotIsReady", "(III)Z"⟩
abbrev cX0_readyTugs : ByteArray := prog_2_method_7_code
def yX0_readyTugs : MethodName := ⟨RX0, "readyTugs", "(II)I"⟩
abbrev cX0_tugsOnDuty : ByteArray := prog_2_method_8_code
def yX0_tugsOnDuty : MethodName := ⟨RX0, "tugsOnDuty", "(I)I"⟩
abbrev cX0_berthIsFree : ByteArray := prog_2_method_9_code
def yX0_berthIsFree : MethodName := ⟨RX0, "berthIsFree", "(III)Z"⟩
def RX1 : String := "HarborTides$Move"
def TX1 : u_T := fun k => match k with
  | 0 => ("HarborTides$Move", "hour", "I", true)
  | 1 => ("HarborTides$Move", "ship", "LHarborTides$Ship;", true)
  | 2 => ("HarborTides$Move", "out", "Z", true)
  | 3 => ("HarborTides$Move", "pilot", "I", true)
  | _ => ("HarborTides$Move", "tugs", "I", true)
def tyX1 : Nat → FieldType := fun k => match k with
  | 0 => .int
  | 1 => .object "HarborTides$Ship"
  | 2 => .boolean
  | 3 => .int
  | _ => .int
abbrev wsX10 : List Cond := u_ws RX1 TX1 5
theorem nmX1 : ∀ a, a < 5 → ∀ b, b < 5 → a ≠ b → (TX1 a).2.1 ≠ (TX1 b).2.1 := by decide +kernel
theorem tyX1_ok : ∀ k, k < 5 → parseFieldDescriptor (TX1 k).2.2.1 = some (tyX1 k) := by decide +kernel
abbrev cX1_init : ByteArray := prog_3_method_1_code
def yX1_init : MethodName := ⟨RX1, "<init>", "(ILHarborTides$Ship;ZII)V"⟩
def RX2 : String := "HarborTides$OrderQueue"
def TX2 : u_T := fun k => match k with
  | _ => ("HarborTides$OrderQueue", "row", "Ljava/util/ArrayList;", true)
def tyX2 : Nat → FieldType := fun k => match k with
  | _ => .object "java/util/ArrayList"
abbrev wsX20 : List Cond := u_ws RX2 TX2 1
theorem nmX2 : ∀ a, a < 1 → ∀ b, b < 1 → a ≠ b → (TX2 a).2.1 ≠ (TX2 b).2.1 := by decide +kernel
theorem tyX2_ok : ∀ k, k < 1 → parseFieldDescriptor (TX2 k).2.2.1 = some (tyX2 k) := by decide +kernel
abbrev cX2_init : ByteArray := prog_4_method_1_code
def yX2_init : MethodName := ⟨RX2, "<init>", "()V"⟩
abbrev cX2_count : ByteArray := prog_4_method_2_code
def yX2_count : MethodName := ⟨RX2, "count", "()I"⟩
abbrev cX2_at : ByteArray := prog_4_method_3_code
def yX2_at : MethodName := ⟨RX2, "at", "(I)LHarborTides$Ship;"⟩
abbrev cX2_insert : ByteArray := prog_4_method_4_code
def yX2_insert : MethodName := ⟨RX2, "insert", "(LHarborTides$Ship;)V"⟩
abbrev cX2_drop : ByteArray := prog_4_method_5_code
def yX2_drop : MethodName := ⟨RX2, "drop", "(LHarborTides$Ship;)V"⟩
abbrev cX2_placeOf : ByteArray := prog_4_method_6_code
def yX2_placeOf : MethodName := ⟨RX2, "placeOf", "(LHarborTides$Ship;)I"⟩
def RX3 : String := "HarborTides$Rota"
def TX3 : u_T := fun k => match k with
  | 0 => ("HarborTides$Rota", "row", "[I", true)
  | _ => ("HarborTides$Rota", "earnings", "[I", true)
def tyX3 : Nat → FieldType := fun k => match k with
  | 0 => .array .int
  | _ => .array .int
abbrev wsX30 : List Cond := u_ws RX3 TX3 2
theorem nmX3 : ∀ a, a < 2 → ∀ b, b < 2 → a ≠ b → (TX3 a).2.1 ≠ (TX3 b).2.1 := by decide +kernel
theorem tyX3_ok : ∀ k, k < 2 → parseFieldDescriptor (TX3 k).2.2.1 = some (tyX3 k) := by decide +kernel
abbrev cX3_init : ByteArray := prog_5_method_1_code
def yX3_init : MethodName := ⟨RX3, "<init>", "()V"⟩
abbrev cX3_exchange : ByteArray := prog_5_method_2_code
def yX3_exchange : MethodName := ⟨RX3, "exchange", "(II)I"⟩
abbrev cX3_sendLast : ByteArray := prog_5_method_3_code
def yX3_sendLast : MethodName := ⟨RX3, "sendLast", "(I)V"⟩
def RX4 : String := "HarborTides$Ship"
def TX4 : u_T := fun k => match k with
  | 0 => ("HarborTides$Ship", "number", "I", true)
  | 1 => ("HarborTides$Ship", "size", "I", true)
  | 2 => ("HarborTides$Ship", "draught", "I", true)
  | 3 => ("HarborTides$Ship", "contract", "I", true)
  | 4 => ("HarborTides$Ship", "berth", "I", true)
  | 5 => ("HarborTides$Ship", "state", "I", false)
  | 6 => ("HarborTides$Ship", "moveHour", "I", false)
  | 7 => ("HarborTides$Ship", "orderHour", "I", false)
  | 8 => ("HarborTides$Ship", "paid", "I", false)
  | 9 => ("HarborTides$Ship", "tidesLost", "I", false)
  | _ => ("HarborTides$Ship", "openClaims", "I", false)
def tyX4 : Nat → FieldType := fun k => match k with
  | 0 => .int
  | 1 => .int
  | 2 => .int
  | 3 => .int
  | 4 => .int
  | 5 => .int
  | 6 => .int
  | 7 => .int
  | 8 => .int
  | 9 => .int
  | _ => .int
abbrev wsX40 : List Cond := u_ws RX4 TX4 11
theorem nmX4 : ∀ a, a < 11 → ∀ b, b < 11 → a ≠ b → (TX4 a).2.1 ≠ (TX4 b).2.1 := by decide +kernel
theorem tyX4_ok : ∀ k, k < 11 → parseFieldDescriptor (TX4 k).2.2.1 = some (tyX4 k) := by decide +kernel
abbrev cX4_init : ByteArray := prog_6_method_1_code
def yX4_init : MethodName := ⟨RX4, "<init>", "(IIIII)V"⟩
abbrev cX4_canMove : ByteArray := prog_6_method_2_code
def yX4_canMove : MethodName := ⟨RX4, "canMove", "()Z"⟩
abbrev cX4_hasOrder : ByteArray := prog_6_method_3_code
def yX4_hasOrder : MethodName := ⟨RX4, "hasOrder", "()Z"⟩
abbrev cX4_beginMove : ByteArray := prog_6_method_4_code
def yX4_beginMove : MethodName := ⟨RX4, "beginMove", "(IZ)V"⟩
abbrev cX4_endMove : ByteArray := prog_6_method_5_code
def yX4_endMove : MethodName := ⟨RX4, "endMove", "(I)V"⟩
abbrev cX4_isAheadOf : ByteArray := prog_6_method_6_code
def yX4_isAheadOf : MethodName := ⟨RX4, "isAheadOf", "(LHarborTides$Ship;)Z"⟩
def RX5 : String := "HarborTides$Water"
def TX5 : u_T := fun k => match k with
  | 0 => ("HarborTides$Water", "table", "[I", true)
  | 1 => ("HarborTides$Water", "surges", "[I", true)
  | _ => ("HarborTides$Water", "berths", "[I", true)
def tyX5 : Nat → FieldType := fun k => match k with
  | 0 => .array .int
  | 1 => .array .int
  | _ => .array .int
abbrev wsX50 : List Cond := u_ws RX5 TX5 3
theorem nmX5 : ∀ a, a < 3 → ∀ b, b < 3 → a ≠ b → (TX5 a).2.1 ≠ (TX5 b).2.1 := by decide +kernel
theorem tyX5_ok : ∀ k, k < 3 → parseFieldDescriptor (TX5 k).2.2.1 = some (tyX5 k) := by decide +kernel
abbrev cX5_init : ByteArray := prog_7_method_1_code
def yX5_init : MethodName := ⟨RX5, "<init>", "()V"⟩
abbrev cX5_tellSurge : ByteArray := prog_7_method_2_code
def yX5_tellSurge : MethodName := ⟨RX5, "tellSurge", "(III)V"⟩
abbrev cX5_depthAt : ByteArray := prog_7_method_3_code
def yX5_depthAt : MethodName := ⟨RX5, "depthAt", "(I)I"⟩
abbrev cX5_carries : ByteArray := prog_7_method_4_code
def yX5_carries : MethodName := ⟨RX5, "carries", "(LHarborTides$Ship;ZI)Z"⟩
def RX6 : String := "HarborTides"
def TX6 : u_T := fun k => match k with
  | 0 => ("HarborTides", "water", "LHarborTides$Water;", true)
  | 1 => ("HarborTides", "pilots", "LHarborTides$Rota;", true)
  | 2 => ("HarborTides", "log", "LHarborTides$Log;", true)
  | 3 => ("HarborTides", "ships", "Ljava/util/ArrayList;", true)
  | 4 => ("HarborTides", "orders", "LHarborTides$OrderQueue;", true)
  | 5 => ("HarborTides", "now", "I", false)
  | 6 => ("HarborTides", "tugSum", "I", false)
  | _ => ("HarborTides", "portSum", "I", false)
def tyX6 : Nat → FieldType := fun k => match k with
  | 0 => .object "HarborTides$Water"
  | 1 => .object "HarborTides$Rota"
  | 2 => .object "HarborTides$Log"
  | 3 => .object "java/util/ArrayList"
  | 4 => .object "HarborTides$OrderQueue"
  | 5 => .int
  | 6 => .int
  | _ => .int
abbrev wsX60 : List Cond := u_ws RX6 TX6 8
theorem nmX6 : ∀ a, a < 8 → ∀ b, b < 8 → a ≠ b → (TX6 a).2.1 ≠ (TX6 b).2.1 := by decide +kernel
theorem tyX6_ok : ∀ k, k < 8 → parseFieldDescriptor (TX6 k).2.2.1 = some (tyX6 k) := by decide +kernel
abbrev cX6_init : ByteArray := prog_1_method_1_code
def yX6_init : MethodName := ⟨RX6, "<init>", "()V"⟩
abbrev cX6_table : ByteArray := prog_1_method_2_code
def yX6_table : MethodName := ⟨RX6, "table", "(II)I"⟩
abbrev cX6_wind : ByteArray := prog_1_method_3_code
def yX6_wind : MethodName := ⟨RX6, "wind", "(III)I"⟩
abbrev cX6_depth : ByteArray := prog_1_method_4_code
def yX6_depth : MethodName := ⟨RX6, "depth", "(I)I"⟩
abbrev cX6_berth : ByteArray := prog_1_method_5_code
def yX6_berth : MethodName := ⟨RX6, "berth", "(II)I"⟩
abbrev cX6_ship : ByteArray := prog_1_method_6_code
def yX6_ship : MethodName := ⟨RX6, "ship", "(IIII)I"⟩
abbrev cX6_order : ByteArray := prog_1_method_7_code
def yX6_order : MethodName := ⟨RX6, "order", "(II)I"⟩
abbrev cX6_cancel : ByteArray := prog_1_method_8_code
def yX6_cancel : MethodName := ⟨RX6, "cancel", "(I)I"⟩
abbrev cX6_hasWater : ByteArray := prog_1_method_9_code
def yX6_hasWater : MethodName := ⟨RX6, "hasWater", "(II)Z"⟩
abbrev cX6_state : ByteArray := prog_1_method_10_code
def yX6_state : MethodName := ⟨RX6, "state", "(I)I"⟩
abbrev cX6_queue : ByteArray := prog_1_method_11_code
def yX6_queue : MethodName := ⟨RX6, "queue", "(I)I"⟩
abbrev cX6_pass : ByteArray := prog_1_method_12_code
def yX6_pass : MethodName := ⟨RX6, "pass", "(I)I"⟩
abbrev cX6_swap : ByteArray := prog_1_method_13_code
def yX6_swap : MethodName := ⟨RX6, "swap", "(II)I"⟩
abbrev cX6_rota : ByteArray := prog_1_method_14_code
def yX6_rota : MethodName := ⟨RX6, "rota", "(I)I"⟩
abbrev cX6_isReady : ByteArray := prog_1_method_15_code
def yX6_isReady : MethodName := ⟨RX6, "isReady", "(I)Z"⟩
abbrev cX6_tugs : ByteArray := prog_1_method_16_code
def yX6_tugs : MethodName := ⟨RX6, "tugs", "()I"⟩
abbrev cX6_moves : ByteArray := prog_1_method_17_code
def yX6_moves : MethodName := ⟨RX6, "moves", "()I"⟩
abbrev cX6_move : ByteArray := prog_1_method_18_code
def yX6_move : MethodName := ⟨RX6, "move", "(I)I"⟩
abbrev cX6_isSound : ByteArray := prog_1_method_19_code
def yX6_isSound : MethodName := ⟨RX6, "isSound", "(I)Z"⟩
abbrev cX6_paid : ByteArray := prog_1_method_20_code
def yX6_paid : MethodName := ⟨RX6, "paid", "(I)I"⟩
abbrev cX6_earned : ByteArray := prog_1_method_21_code
def yX6_earned : MethodName := ⟨RX6, "earned", "(I)I"⟩
abbrev cX6_tugPay : ByteArray := prog_1_method_22_code
def yX6_tugPay : MethodName := ⟨RX6, "tugPay", "()I"⟩
abbrev cX6_port : ByteArray := prog_1_method_23_code
def yX6_port : MethodName := ⟨RX6, "port", "()I"⟩
abbrev cX6_lost : ByteArray := prog_1_method_24_code
def yX6_lost : MethodName := ⟨RX6, "lost", "(I)I"⟩
abbrev cX6_claims : ByteArray := prog_1_method_25_code
def yX6_claims : MethodName := ⟨RX6, "claims", "(I)I"⟩
abbrev cX6_payClaim : ByteArray := prog_1_method_26_code
def yX6_payClaim : MethodName := ⟨RX6, "payClaim", "(I)I"⟩
abbrev cX6_checkPlace : ByteArray := prog_1_method_27_code
def yX6_checkPlace : MethodName := ⟨RX6, "checkPlace", "(II)V"⟩
abbrev cX6_checkRange : ByteArray := prog_1_method_28_code
def yX6_checkRange : MethodName := ⟨RX6, "checkRange", "(III)V"⟩
abbrev cX6_shipAt : ByteArray := prog_1_method_29_code
def yX6_shipAt : MethodName := ⟨RX6, "shipAt", "(I)LHarborTides$Ship;"⟩
abbrev cX6_endMoves : ByteArray := prog_1_method_30_code
def yX6_endMoves : MethodName := ⟨RX6, "endMoves", "()V"⟩
abbrev cX6_takeBerthDues : ByteArray := prog_1_method_31_code
def yX6_takeBerthDues : MethodName := ⟨RX6, "takeBerthDues", "()V"⟩
abbrev cX6_lookAtOrders : ByteArray := prog_1_method_32_code
def yX6_lookAtOrders : MethodName := ⟨RX6, "lookAtOrders", "()V"⟩
abbrev cX6_settles : ByteArray := prog_1_method_33_code
def yX6_settles : MethodName := ⟨RX6, "settles", "(LHarborTides$Ship;)Z"⟩
abbrev cX6_loseTide : ByteArray := prog_1_method_34_code
def yX6_loseTide : MethodName := ⟨RX6, "loseTide", "(LHarborTides$Ship;)V"⟩
abbrev cX6_begins : ByteArray := prog_1_method_35_code
def yX6_begins : MethodName := ⟨RX6, "begins", "(LHarborTides$Ship;Z)Z"⟩
abbrev cX6_berthIsFreeNow : ByteArray := prog_1_method_36_code
def yX6_berthIsFreeNow : MethodName := ⟨RX6, "berthIsFreeNow", "(I)Z"⟩
abbrev cX6_firstReadyPilot : ByteArray := prog_1_method_37_code
def yX6_firstReadyPilot : MethodName := ⟨RX6, "firstReadyPilot", "()I"⟩
abbrev cX6_lowestOf : ByteArray := prog_1_method_38_code
def yX6_lowestOf : MethodName := ⟨RX6, "lowestOf", "(II)I"⟩
abbrev cX6_payPilot : ByteArray := prog_1_method_39_code
def yX6_payPilot : MethodName := ⟨RX6, "payPilot", "(LHarborTides$Ship;I)V"⟩
abbrev cX6_payTugs : ByteArray := prog_1_method_40_code
def yX6_payTugs : MethodName := ⟨RX6, "payTugs", "(LHarborTides$Ship;)V"⟩
abbrev cX6_payPort : ByteArray := prog_1_method_41_code
def yX6_payPort : MethodName := ⟨RX6, "payPort", "(LHarborTides$Ship;I)V"⟩
def RX7 : String := "HarborTidesModel"
def TX7 : u_T := fun k => match k with
  | 0 => ("HarborTidesModel", "thrown", "I", false)
  | 1 => ("HarborTidesModel", "now", "I", false)
  | 2 => ("HarborTidesModel", "table", "[I", true)
  | 3 => ("HarborTidesModel", "surges", "[I", true)
  | 4 => ("HarborTidesModel", "deep", "[I", true)
  | 5 => ("HarborTidesModel", "ships", "I", false)
  | 6 => ("HarborTidesModel", "sizes", "[I", true)
  | 7 => ("HarborTidesModel", "draughts", "[I", true)
  | 8 => ("HarborTidesModel", "contracts", "[I", true)
  | 9 => ("HarborTidesModel", "berths", "[I", true)
  | 10 => ("HarborTidesModel", "states", "[I", true)
  | 11 => ("HarborTidesModel", "orders", "[I", true)
  | 12 => ("HarborTidesModel", "began", "[I", true)
  | 13 => ("HarborTidesModel", "paid", "[I", true)
  | 14 => ("HarborTidesModel", "lost", "[I", true)
  | 15 => ("HarborTidesModel", "claims", "[I", true)
  | 16 => ("HarborTidesModel", "rota", "[I", true)
  | 17 => ("HarborTidesModel", "earned", "[I", true)
  | 18 => ("HarborTidesModel", "tugPay", "I", false)
  | 19 => ("HarborTidesModel", "port", "I", false)
  | 20 => ("HarborTidesModel", "moves", "I", false)
  | 21 => ("HarborTidesModel", "moveHours", "[I", true)
  | 22 => ("HarborTidesModel", "moveShips", "[I", true)
  | 23 => ("HarborTidesModel", "movePilots", "[I", true)
  | 24 => ("HarborTidesModel", "moveTugs", "[I", true)
  | _ => ("HarborTidesModel", "isOut", "[Z", true)
def tyX7 : Nat → FieldType := fun k => match k with
  | 0 => .int
  | 1 => .int
  | 2 => .array .int
  | 3 => .array .int
  | 4 => .array .int
  | 5 => .int
  | 6 => .array .int
  | 7 => .array .int
  | 8 => .array .int
  | 9 => .array .int
  | 10 => .array .int
  | 11 => .array .int
  | 12 => .array .int
  | 13 => .array .int
  | 14 => .array .int
  | 15 => .array .int
  | 16 => .array .int
  | 17 => .array .int
  | 18 => .int
  | 19 => .int
  | 20 => .int
  | 21 => .array .int
  | 22 => .array .int
  | 23 => .array .int
  | 24 => .array .int
  | _ => .array .boolean
abbrev wsX70 : List Cond := u_ws RX7 TX7 26
theorem nmX7 : ∀ a, a < 26 → ∀ b, b < 26 → a ≠ b → (TX7 a).2.1 ≠ (TX7 b).2.1 := by decide +kernel
theorem tyX7_ok : ∀ k, k < 26 → parseFieldDescriptor (TX7 k).2.2.1 = some (tyX7 k) := by decide +kernel
abbrev cX7_init : ByteArray := prog_9_method_1_code
def yX7_init : MethodName := ⟨RX7, "<init>", "()V"⟩
abbrev cX7_thrown : ByteArray := prog_9_method_2_code
def yX7_thrown : MethodName := ⟨RX7, "thrown", "()I"⟩
abbrev cX7_holds : ByteArray := prog_9_method_3_code
def yX7_holds : MethodName := ⟨RX7, "holds", "(I)Z"⟩
abbrev cX7_isIn : ByteArray := prog_9_method_4_code
def yX7_isIn : MethodName := ⟨RX7, "isIn", "(III)Z"⟩
abbrev cX7_isShip : ByteArray := prog_9_method_5_code
def yX7_isShip : MethodName := ⟨RX7, "isShip", "(I)Z"⟩
abbrev cX7_isMove : ByteArray := prog_9_method_6_code
def yX7_isMove : MethodName := ⟨RX7, "isMove", "(I)Z"⟩
abbrev cX7_depthOf : ByteArray := prog_9_method_7_code
def yX7_depthOf : MethodName := ⟨RX7, "depthOf", "(I)I"⟩
abbrev cX7_table : ByteArray := prog_9_method_8_code
def yX7_table : MethodName := ⟨RX7, "table", "(II)I"⟩
abbrev cX7_wind : ByteArray := prog_9_method_9_code
def yX7_wind : MethodName := ⟨RX7, "wind", "(III)I"⟩
abbrev cX7_depth : ByteArray := prog_9_method_10_code
def yX7_depth : MethodName := ⟨RX7, "depth", "(I)I"⟩
abbrev cX7_wasUsed : ByteArray := prog_9_method_11_code
def yX7_wasUsed : MethodName := ⟨RX7, "wasUsed", "(I)Z"⟩
abbrev cX7_berth : ByteArray := prog_9_method_12_code
def yX7_berth : MethodName := ⟨RX7, "berth", "(II)I"⟩
abbrev cX7_floats : ByteArray := prog_9_method_13_code
def yX7_floats : MethodName := ⟨RX7, "floats", "(II)Z"⟩
abbrev cX7_ship : ByteArray := prog_9_method_14_code
def yX7_ship : MethodName := ⟨RX7, "ship", "(IIII)I"⟩
abbrev cX7_ordered : ByteArray := prog_9_method_15_code
def yX7_ordered : MethodName := ⟨RX7, "ordered", "()I"⟩
abbrev cX7_order : ByteArray := prog_9_method_16_code
def yX7_order : MethodName := ⟨RX7, "order", "(II)I"⟩
abbrev cX7_cancel : ByteArray := prog_9_method_17_code
def yX7_cancel : MethodName := ⟨RX7, "cancel", "(I)I"⟩
abbrev cX7_hasWater : ByteArray := prog_9_method_18_code
def yX7_hasWater : MethodName := ⟨RX7, "hasWater", "(II)Z"⟩
abbrev cX7_state : ByteArray := prog_9_method_19_code
def yX7_state : MethodName := ⟨RX7, "state", "(I)I"⟩
abbrev cX7_isAhead : ByteArray := prog_9_method_20_code
def yX7_isAhead : MethodName := ⟨RX7, "isAhead", "(II)Z"⟩
abbrev cX7_queue : ByteArray := prog_9_method_21_code
def yX7_queue : MethodName := ⟨RX7, "queue", "(I)I"⟩
abbrev cX7_isPilotReady : ByteArray := prog_9_method_22_code
def yX7_isPilotReady : MethodName := ⟨RX7, "isPilotReady", "(I)Z"⟩
abbrev cX7_tugsNow : ByteArray := prog_9_method_23_code
def yX7_tugsNow : MethodName := ⟨RX7, "tugsNow", "()I"⟩
abbrev cX7_firstReady : ByteArray := prog_9_method_24_code
def yX7_firstReady : MethodName := ⟨RX7, "firstReady", "()I"⟩
abbrev cX7_placeOf : ByteArray := prog_9_method_25_code
def yX7_placeOf : MethodName := ⟨RX7, "placeOf", "(I)I"⟩
abbrev cX7_isPilot : ByteArray := prog_9_method_26_code
def yX7_isPilot : MethodName := ⟨RX7, "isPilot", "(I)Z"⟩
abbrev cX7_swap : ByteArray := prog_9_method_27_code
def yX7_swap : MethodName := ⟨RX7, "swap", "(II)I"⟩
abbrev cX7_rota : ByteArray := prog_9_method_28_code
def yX7_rota : MethodName := ⟨RX7, "rota", "(I)I"⟩
abbrev cX7_isReady : ByteArray := prog_9_method_29_code
def yX7_isReady : MethodName := ⟨RX7, "isReady", "(I)Z"⟩
abbrev cX7_tugs : ByteArray := prog_9_method_30_code
def yX7_tugs : MethodName := ⟨RX7, "tugs", "()I"⟩
abbrev cX7_isFree : ByteArray := prog_9_method_31_code
def yX7_isFree : MethodName := ⟨RX7, "isFree", "(I)Z"⟩
abbrev cX7_many : ByteArray := prog_9_method_32_code
def yX7_many : MethodName := ⟨RX7, "many", "(I)I"⟩
abbrev cX7_lowest : ByteArray := prog_9_method_33_code
def yX7_lowest : MethodName := ⟨RX7, "lowest", "(II)I"⟩
abbrev cX7_pays : ByteArray := prog_9_method_34_code
def yX7_pays : MethodName := ⟨RX7, "pays", "(II)V"⟩
abbrev cX7_loses : ByteArray := prog_9_method_35_code
def yX7_loses : MethodName := ⟨RX7, "loses", "(I)V"⟩
abbrev cX7_begins : ByteArray := prog_9_method_36_code
def yX7_begins : MethodName := ⟨RX7, "begins", "(I)V"⟩
abbrev cX7_looksAt : ByteArray := prog_9_method_37_code
def yX7_looksAt : MethodName := ⟨RX7, "looksAt", "(I)V"⟩
abbrev cX7_passes : ByteArray := prog_9_method_38_code
def yX7_passes : MethodName := ⟨RX7, "passes", "()V"⟩
abbrev cX7_pass : ByteArray := prog_9_method_39_code
def yX7_pass : MethodName := ⟨RX7, "pass", "(I)I"⟩
abbrev cX7_moves : ByteArray := prog_9_method_40_code
def yX7_moves : MethodName := ⟨RX7, "moves", "()I"⟩
abbrev cX7_move : ByteArray := prog_9_method_41_code
def yX7_move : MethodName := ⟨RX7, "move", "(I)I"⟩
abbrev cX7_isSound : ByteArray := prog_9_method_42_code
def yX7_isSound : MethodName := ⟨RX7, "isSound", "(I)Z"⟩
abbrev cX7_paid : ByteArray := prog_9_method_43_code
def yX7_paid : MethodName := ⟨RX7, "paid", "(I)I"⟩
abbrev cX7_earned : ByteArray := prog_9_method_44_code
def yX7_earned : MethodName := ⟨RX7, "earned", "(I)I"⟩
abbrev cX7_tugPay : ByteArray := prog_9_method_45_code
def yX7_tugPay : MethodName := ⟨RX7, "tugPay", "()I"⟩
abbrev cX7_port : ByteArray := prog_9_method_46_code
def yX7_port : MethodName := ⟨RX7, "port", "()I"⟩
abbrev cX7_lost : ByteArray := prog_9_method_47_code
def yX7_lost : MethodName := ⟨RX7, "lost", "(I)I"⟩
abbrev cX7_claims : ByteArray := prog_9_method_48_code
def yX7_claims : MethodName := ⟨RX7, "claims", "(I)I"⟩
abbrev cX7_payClaim : ByteArray := prog_9_method_49_code
def yX7_payClaim : MethodName := ⟨RX7, "payClaim", "(I)I"⟩
def RJx145de : String := "java/io/Serializable"
def TJx145de : u_T := fun k => match k with
  | _ => ("", "", "", false)
def tyJx145de : Nat → FieldType := fun k => match k with
  | _ => .int
abbrev wsJx145de0 : List Cond := u_ws RJx145de TJx145de 0
theorem nmJx145de : ∀ a, a < 0 → ∀ b, b < 0 → a ≠ b → (TJx145de a).2.1 ≠ (TJx145de b).2.1 := by decide +kernel
theorem tyJx145de_ok : ∀ k, k < 0 → parseFieldDescriptor (TJx145de k).2.2.1 = some (tyJx145de k) := by decide +kernel
def RJ5 : String := "java/lang/AbstractStringBuilder"
def TJ5 : u_T := fun k => match k with
  | _ => ("", "", "", false)
def tyJ5 : Nat → FieldType := fun k => match k with
  | _ => .int
abbrev wsJ50 : List Cond := u_ws RJ5 TJ5 0
theorem nmJ5 : ∀ a, a < 0 → ∀ b, b < 0 → a ≠ b → (TJ5 a).2.1 ≠ (TJ5 b).2.1 := by decide +kernel
theorem tyJ5_ok : ∀ k, k < 0 → parseFieldDescriptor (TJ5 k).2.2.1 = some (tyJ5 k) := by decide +kernel
abbrev cJ5_init_d00df : ByteArray := prog_11_method_2_code
def yJ5_init_d00df : MethodName := ⟨RJ5, "<init>", "(I)V"⟩
abbrev cJ5_length_8abf5 : ByteArray := prog_11_method_6_code
def yJ5_length_8abf5 : MethodName := ⟨RJ5, "length", "()I"⟩
abbrev cJ5_ensureCapacityInternal_d00df : ByteArray := prog_11_method_9_code
def yJ5_ensureCapacityInternal_d00df : MethodName := ⟨RJ5, "ensureCapacityInternal", "(I)V"⟩
abbrev cJ5_newCapacity_0f7a4 : ByteArray := prog_11_method_10_code
def yJ5_newCapacity_0f7a4 : MethodName := ⟨RJ5, "newCapacity", "(I)I"⟩
abbrev cJ5_inflate_da8c8 : ByteArray := prog_11_method_11_code
def yJ5_inflate_da8c8 : MethodName := ⟨RJ5, "inflate", "()V"⟩
abbrev cJ5_append_cf1ce : ByteArray := prog_11_method_22_code
def yJ5_append_cf1ce : MethodName := ⟨RJ5, "append", "(Ljava/lang/String;)Ljava/lang/AbstractStringBuilder;"⟩
abbrev cJ5_appendNull_278bc : ByteArray := prog_11_method_26_code
def yJ5_appendNull_278bc : MethodName := ⟨RJ5, "appendNull", "()Ljava/lang/AbstractStringBuilder;"⟩
abbrev cJ5_append_c97b9 : ByteArray := prog_11_method_32_code
def yJ5_append_c97b9 : MethodName := ⟨RJ5, "append", "(I)Ljava/lang/AbstractStringBuilder;"⟩
abbrev cJ5_getValue_6d5f1 : ByteArray := prog_11_method_64_code
def yJ5_getValue_6d5f1 : MethodName := ⟨RJ5, "getValue", "()[B"⟩
abbrev cJ5_isLatin1_aae02 : ByteArray := prog_11_method_68_code
def yJ5_isLatin1_aae02 : MethodName := ⟨RJ5, "isLatin1", "()Z"⟩
abbrev cJ5_inflateIfNeededFor_a7421 : ByteArray := prog_11_method_71_code
def yJ5_inflateIfNeededFor_a7421 : MethodName := ⟨RJ5, "inflateIfNeededFor", "(Ljava/lang/String;)V"⟩
abbrev cJ5_putStringAt_47b60 : ByteArray := prog_11_method_73_code
def yJ5_putStringAt_47b60 : MethodName := ⟨RJ5, "putStringAt", "(ILjava/lang/String;)V"⟩
def RJx2cfe8 : String := "java/lang/Appendable"
def TJx2cfe8 : u_T := fun k => match k with
  | _ => ("", "", "", false)
def tyJx2cfe8 : Nat → FieldType := fun k => match k with
  | _ => .int
abbrev wsJx2cfe80 : List Cond := u_ws RJx2cfe8 TJx2cfe8 0
theorem nmJx2cfe8 : ∀ a, a < 0 → ∀ b, b < 0 → a ≠ b → (TJx2cfe8 a).2.1 ≠ (TJx2cfe8 b).2.1 := by decide +kernel
theorem tyJx2cfe8_ok : ∀ k, k < 0 → parseFieldDescriptor (TJx2cfe8 k).2.2.1 = some (tyJx2cfe8 k) := by decide +kernel
def RJx9f9b0 : String := "java/lang/CharSequence"
def TJx9f9b0 : u_T := fun k => match k with
  | _ => ("", "", "", false)
def tyJx9f9b0 : Nat → FieldType := fun k => match k with
  | _ => .int
abbrev wsJx9f9b00 : List Cond := u_ws RJx9f9b0 TJx9f9b0 0
theorem nmJx9f9b0 : ∀ a, a < 0 → ∀ b, b < 0 → a ≠ b → (TJx9f9b0 a).2.1 ≠ (TJx9f9b0 b).2.1 := by decide +kernel
theorem tyJx9f9b0_ok : ∀ k, k < 0 → parseFieldDescriptor (TJx9f9b0 k).2.2.1 = some (tyJx9f9b0 k) := by decide +kernel
def RJx8e188 : String := "java/lang/Cloneable"
def TJx8e188 : u_T := fun k => match k with
  | _ => ("", "", "", false)
def tyJx8e188 : Nat → FieldType := fun k => match k with
  | _ => .int
abbrev wsJx8e1880 : List Cond := u_ws RJx8e188 TJx8e188 0
theorem nmJx8e188 : ∀ a, a < 0 → ∀ b, b < 0 → a ≠ b → (TJx8e188 a).2.1 ≠ (TJx8e188 b).2.1 := by decide +kernel
theorem tyJx8e188_ok : ∀ k, k < 0 → parseFieldDescriptor (TJx8e188 k).2.2.1 = some (tyJx8e188 k) := by decide +kernel
def RJxb160c : String := "java/lang/Comparable"
def TJxb160c : u_T := fun k => match k with
  | _ => ("", "", "", false)
def tyJxb160c : Nat → FieldType := fun k => match k with
  | _ => .int
abbrev wsJxb160c0 : List Cond := u_ws RJxb160c TJxb160c 0
theorem nmJxb160c : ∀ a, a < 0 → ∀ b, b < 0 → a ≠ b → (TJxb160c a).2.1 ≠ (TJxb160c b).2.1 := by decide +kernel
theorem tyJxb160c_ok : ∀ k, k < 0 → parseFieldDescriptor (TJxb160c k).2.2.1 = some (tyJxb160c k) := by decide +kernel
def RJ6 : String := "java/lang/Integer"
def TJ6 : u_T := fun k => match k with
  | _ => ("", "", "", false)
def tyJ6 : Nat → FieldType := fun k => match k with
  | _ => .int
abbrev wsJ60 : List Cond := u_ws RJ6 TJ6 0
theorem nmJ6 : ∀ a, a < 0 → ∀ b, b < 0 → a ≠ b → (TJ6 a).2.1 ≠ (TJ6 b).2.1 := by decide +kernel
theorem tyJ6_ok : ∀ k, k < 0 → parseFieldDescriptor (TJ6 k).2.2.1 = some (tyJ6 k) := by decide +kernel
abbrev cJ6_getChars_ba4f3 : ByteArray := prog_20_method_12_code
def yJ6_getChars_ba4f3 : MethodName := ⟨RJ6, "getChars", "(II[B)I"⟩
abbrev cJ6_stringSize_0f7a4 : ByteArray := prog_20_method_13_code
def yJ6_stringSize_0f7a4 : MethodName := ⟨RJ6, "stringSize", "(I)I"⟩
def RJxab1ab : String := "java/lang/Iterable"
def TJxab1ab : u_T := fun k => match k with
  | _ => ("", "", "", false)
def tyJxab1ab : Nat → FieldType := fun k => match k with
  | _ => .int
abbrev wsJxab1ab0 : List Cond := u_ws RJxab1ab TJxab1ab 0
theorem nmJxab1ab : ∀ a, a < 0 → ∀ b, b < 0 → a ≠ b → (TJxab1ab a).2.1 ≠ (TJxab1ab b).2.1 := by decide +kernel
theorem tyJxab1ab_ok : ∀ k, k < 0 → parseFieldDescriptor (TJxab1ab k).2.2.1 = some (tyJxab1ab k) := by decide +kernel
def RJ9 : String := "java/lang/Math"
def TJ9 : u_T := fun k => match k with
  | _ => ("", "", "", false)
def tyJ9 : Nat → FieldType := fun k => match k with
  | _ => .int
abbrev wsJ90 : List Cond := u_ws RJ9 TJ9 0
theorem nmJ9 : ∀ a, a < 0 → ∀ b, b < 0 → a ≠ b → (TJ9 a).2.1 ≠ (TJ9 b).2.1 := by decide +kernel
theorem tyJ9_ok : ∀ k, k < 0 → parseFieldDescriptor (TJ9 k).2.2.1 = some (tyJ9 k) := by decide +kernel
abbrev cJ9_max_7cf53 : ByteArray := prog_22_method_65_code
def yJ9_max_7cf53 : MethodName := ⟨RJ9, "max", "(II)I"⟩
abbrev cJ9_min_7cf53 : ByteArray := prog_22_method_69_code
def yJ9_min_7cf53 : MethodName := ⟨RJ9, "min", "(II)I"⟩
def RJxd2413 : String := "java/lang/Number"
def TJxd2413 : u_T := fun k => match k with
  | _ => ("", "", "", false)
def tyJxd2413 : Nat → FieldType := fun k => match k with
  | _ => .int
abbrev wsJxd24130 : List Cond := u_ws RJxd2413 TJxd2413 0
theorem nmJxd2413 : ∀ a, a < 0 → ∀ b, b < 0 → a ≠ b → (TJxd2413 a).2.1 ≠ (TJxd2413 b).2.1 := by decide +kernel
theorem tyJxd2413_ok : ∀ k, k < 0 → parseFieldDescriptor (TJxd2413 k).2.2.1 = some (tyJxd2413 k) := by decide +kernel
def RJ0 : String := "java/lang/String"
def TJ0 : u_T := fun k => match k with
  | 0 => ("java/lang/String", "value", "[B", true)
  | 1 => ("java/lang/String", "coder", "B", true)
  | 2 => ("java/lang/String", "hash", "I", false)
  | _ => ("java/lang/String", "hashIsZero", "Z", false)
def tyJ0 : Nat → FieldType := fun k => match k with
  | 0 => .array .byte
  | 1 => .byte
  | 2 => .int
  | _ => .boolean
abbrev wsJ00 : List Cond := u_ws RJ0 TJ0 4
theorem nmJ0 : ∀ a, a < 4 → ∀ b, b < 4 → a ≠ b → (TJ0 a).2.1 ≠ (TJ0 b).2.1 := by decide +kernel
theorem tyJ0_ok : ∀ k, k < 4 → parseFieldDescriptor (TJ0 k).2.2.1 = some (tyJ0 k) := by decide +kernel
abbrev cJ0_init_81219 : ByteArray := prog_25_method_53_code
def yJ0_init_81219 : MethodName := ⟨RJ0, "<init>", "(Ljava/lang/StringBuilder;)V"⟩
abbrev cJ0_length_8abf5 : ByteArray := prog_25_method_54_code
def yJ0_length_8abf5 : MethodName := ⟨RJ0, "length", "()I"⟩
abbrev cJ0_getBytes_840e7 : ByteArray := prog_25_method_147_code
def yJ0_getBytes_840e7 : MethodName := ⟨RJ0, "getBytes", "([BIB)V"⟩
abbrev cJ0_init_db425 : ByteArray := prog_25_method_150_code
def yJ0_init_db425 : MethodName := ⟨RJ0, "<init>", "(Ljava/lang/AbstractStringBuilder;Ljava/lang/Void;)V"⟩
abbrev cJ0_coder_7d493 : ByteArray := prog_25_method_152_code
def yJ0_coder_7d493 : MethodName := ⟨RJ0, "coder", "()B"⟩
abbrev cJ0_checkBoundsOffCount_cabcc : ByteArray := prog_25_method_157_code
def yJ0_checkBoundsOffCount_cabcc : MethodName := ⟨RJ0, "checkBoundsOffCount", "(III)I"⟩
abbrev cJ0_checkBoundsBeginEnd_23922 : ByteArray := prog_25_method_158_code
def yJ0_checkBoundsBeginEnd_23922 : MethodName := ⟨RJ0, "checkBoundsBeginEnd", "(III)V"⟩
def RJ4 : String := "java/lang/StringBuilder"
def TJ4 : u_T := fun k => match k with
  | 0 => ("java/lang/AbstractStringBuilder", "value", "[B", false)
  | 1 => ("java/lang/AbstractStringBuilder", "coder", "B", false)
  | 2 => ("java/lang/AbstractStringBuilder", "maybeLatin1", "Z", false)
  | _ => ("java/lang/AbstractStringBuilder", "count", "I", false)
def tyJ4 : Nat → FieldType := fun k => match k with
  | 0 => .array .byte
  | 1 => .byte
  | 2 => .boolean
  | _ => .int
abbrev wsJ40 : List Cond := u_ws RJ4 TJ4 4
theorem nmJ4 : ∀ a, a < 4 → ∀ b, b < 4 → a ≠ b → (TJ4 a).2.1 ≠ (TJ4 b).2.1 := by decide +kernel
theorem tyJ4_ok : ∀ k, k < 4 → parseFieldDescriptor (TJ4 k).2.2.1 = some (tyJ4 k) := by decide +kernel
abbrev cJ4_init_da8c8 : ByteArray := prog_26_method_1_code
def yJ4_init_da8c8 : MethodName := ⟨RJ4, "<init>", "()V"⟩
abbrev cJ4_append_15ec4 : ByteArray := prog_26_method_7_code
def yJ4_append_15ec4 : MethodName := ⟨RJ4, "append", "(Ljava/lang/String;)Ljava/lang/StringBuilder;"⟩
abbrev cJ4_append_bf812 : ByteArray := prog_26_method_15_code
def yJ4_append_bf812 : MethodName := ⟨RJ4, "append", "(I)Ljava/lang/StringBuilder;"⟩
abbrev cJ4_toString_0e30d : ByteArray := prog_26_method_42_code
def yJ4_toString_0e30d : MethodName := ⟨RJ4, "toString", "()Ljava/lang/String;"⟩
abbrev cJ4_length_8abf5 : ByteArray := prog_26_method_93_code
def yJ4_length_8abf5 : MethodName := ⟨RJ4, "length", "()I"⟩
def RJ1 : String := "java/lang/StringLatin1"
def TJ1 : u_T := fun k => match k with
  | _ => ("", "", "", false)
def tyJ1 : Nat → FieldType := fun k => match k with
  | _ => .int
abbrev wsJ10 : List Cond := u_ws RJ1 TJ1 0
theorem nmJ1 : ∀ a, a < 0 → ∀ b, b < 0 → a ≠ b → (TJ1 a).2.1 ≠ (TJ1 b).2.1 := by decide +kernel
theorem tyJ1_ok : ∀ k, k < 0 → parseFieldDescriptor (TJ1 k).2.2.1 = some (tyJ1 k) := by decide +kernel
abbrev cJ1_inflate_0e8fd : ByteArray := prog_27_method_50_code
def yJ1_inflate_0e8fd : MethodName := ⟨RJ1, "inflate", "([BI[BII)V"⟩
def RJ2 : String := "java/lang/StringUTF16"
def TJ2 : u_T := fun k => match k with
  | _ => ("", "", "", false)
def tyJ2 : Nat → FieldType := fun k => match k with
  | _ => .int
abbrev wsJ20 : List Cond := u_ws RJ2 TJ2 0
theorem nmJ2 : ∀ a, a < 0 → ∀ b, b < 0 → a ≠ b → (TJ2 a).2.1 ≠ (TJ2 b).2.1 := by decide +kernel
theorem tyJ2_ok : ∀ k, k < 0 → parseFieldDescriptor (TJ2 k).2.2.1 = some (tyJ2 k) := by decide +kernel
abbrev cJ2_newBytesFor_77867 : ByteArray := prog_28_method_2_code
def yJ2_newBytesFor_77867 : MethodName := ⟨RJ2, "newBytesFor", "(I)[B"⟩
abbrev cJ2_newBytesLength_0f7a4 : ByteArray := prog_28_method_3_code
def yJ2_newBytesLength_0f7a4 : MethodName := ⟨RJ2, "newBytesLength", "(I)I"⟩
abbrev cJ2_putChar_b72d1 : ByteArray := prog_28_method_4_code
def yJ2_putChar_b72d1 : MethodName := ⟨RJ2, "putChar", "([BII)V"⟩
abbrev cJ2_getChar_3b067 : ByteArray := prog_28_method_5_code
def yJ2_getChar_3b067 : MethodName := ⟨RJ2, "getChar", "([BI)C"⟩
abbrev cJ2_length_9d52b : ByteArray := prog_28_method_6_code
def yJ2_length_9d52b : MethodName := ⟨RJ2, "length", "([B)I"⟩
abbrev cJ2_coderFromArrayLen_85cad : ByteArray := prog_28_method_15_code
def yJ2_coderFromArrayLen_85cad : MethodName := ⟨RJ2, "coderFromArrayLen", "([BI)B"⟩
abbrev cJ2_compress_39247 : ByteArray := prog_28_method_17_code
def yJ2_compress_39247 : MethodName := ⟨RJ2, "compress", "([BII)[B"⟩
abbrev cJ2_compress_5af95 : ByteArray := prog_28_method_22_code
def yJ2_compress_5af95 : MethodName := ⟨RJ2, "compress", "([BI[BII)I"⟩
abbrev cJ2_getChars_46870 : ByteArray := prog_28_method_77_code
def yJ2_getChars_46870 : MethodName := ⟨RJ2, "getChars", "(III[B)I"⟩
abbrev cJ2_putCharsAt_cd4e5 : ByteArray := prog_28_method_81_code
def yJ2_putCharsAt_cd4e5 : MethodName := ⟨RJ2, "putCharsAt", "([BICCCC)I"⟩
abbrev cJ2_inflate_0e8fd : ByteArray := prog_28_method_86_code
def yJ2_inflate_0e8fd : MethodName := ⟨RJ2, "inflate", "([BI[BII)V"⟩
abbrev cJ2_getChars_ba4f3 : ByteArray := prog_28_method_89_code
def yJ2_getChars_ba4f3 : MethodName := ⟨RJ2, "getChars", "(II[B)I"⟩
abbrev cJ2_checkBoundsBeginEnd_d044e : ByteArray := prog_28_method_93_code
def yJ2_checkBoundsBeginEnd_d044e : MethodName := ⟨RJ2, "checkBoundsBeginEnd", "(II[B)V"⟩
abbrev cJ2_checkBoundsOffCount_d044e : ByteArray := prog_28_method_94_code
def yJ2_checkBoundsOffCount_d044e : MethodName := ⟨RJ2, "checkBoundsOffCount", "(II[B)V"⟩
def RJ10 : String := "java/lang/System"
def TJ10 : u_T := fun k => match k with
  | _ => ("", "", "", false)
def tyJ10 : Nat → FieldType := fun k => match k with
  | _ => .int
abbrev wsJ100 : List Cond := u_ws RJ10 TJ10 0
theorem nmJ10 : ∀ a, a < 0 → ∀ b, b < 0 → a ≠ b → (TJ10 a).2.1 ≠ (TJ10 b).2.1 := by decide +kernel
theorem tyJ10_ok : ∀ k, k < 0 → parseFieldDescriptor (TJ10 k).2.2.1 = some (tyJ10 k) := by decide +kernel
def RJxfd54e : String := "java/lang/constant/Constable"
def TJxfd54e : u_T := fun k => match k with
  | _ => ("", "", "", false)
def tyJxfd54e : Nat → FieldType := fun k => match k with
  | _ => .int
abbrev wsJxfd54e0 : List Cond := u_ws RJxfd54e TJxfd54e 0
theorem nmJxfd54e : ∀ a, a < 0 → ∀ b, b < 0 → a ≠ b → (TJxfd54e a).2.1 ≠ (TJxfd54e b).2.1 := by decide +kernel
theorem tyJxfd54e_ok : ∀ k, k < 0 → parseFieldDescriptor (TJxfd54e k).2.2.1 = some (tyJxfd54e k) := by decide +kernel
def RJx3cf43 : String := "java/lang/constant/ConstantDesc"
def TJx3cf43 : u_T := fun k => match k with
  | _ => ("", "", "", false)
def tyJx3cf43 : Nat → FieldType := fun k => match k with
  | _ => .int
abbrev wsJx3cf430 : List Cond := u_ws RJx3cf43 TJx3cf43 0
theorem nmJx3cf43 : ∀ a, a < 0 → ∀ b, b < 0 → a ≠ b → (TJx3cf43 a).2.1 ≠ (TJx3cf43 b).2.1 := by decide +kernel
theorem tyJx3cf43_ok : ∀ k, k < 0 → parseFieldDescriptor (TJx3cf43 k).2.2.1 = some (tyJx3cf43 k) := by decide +kernel
def RJxa1e45 : String := "java/util/AbstractCollection"
def TJxa1e45 : u_T := fun k => match k with
  | _ => ("", "", "", false)
def tyJxa1e45 : Nat → FieldType := fun k => match k with
  | _ => .int
abbrev wsJxa1e450 : List Cond := u_ws RJxa1e45 TJxa1e45 0
theorem nmJxa1e45 : ∀ a, a < 0 → ∀ b, b < 0 → a ≠ b → (TJxa1e45 a).2.1 ≠ (TJxa1e45 b).2.1 := by decide +kernel
theorem tyJxa1e45_ok : ∀ k, k < 0 → parseFieldDescriptor (TJxa1e45 k).2.2.1 = some (tyJxa1e45 k) := by decide +kernel
abbrev cJxa1e45_init_da8c8 : ByteArray := prog_33_method_1_code
def yJxa1e45_init_da8c8 : MethodName := ⟨RJxa1e45, "<init>", "()V"⟩
def RJxc12de : String := "java/util/AbstractList"
def TJxc12de : u_T := fun k => match k with
  | _ => ("", "", "", false)
def tyJxc12de : Nat → FieldType := fun k => match k with
  | _ => .int
abbrev wsJxc12de0 : List Cond := u_ws RJxc12de TJxc12de 0
theorem nmJxc12de : ∀ a, a < 0 → ∀ b, b < 0 → a ≠ b → (TJxc12de a).2.1 ≠ (TJxc12de b).2.1 := by decide +kernel
theorem tyJxc12de_ok : ∀ k, k < 0 → parseFieldDescriptor (TJxc12de k).2.2.1 = some (tyJxc12de k) := by decide +kernel
abbrev cJxc12de_init_da8c8 : ByteArray := prog_34_method_1_code
def yJxc12de_init_da8c8 : MethodName := ⟨RJxc12de, "<init>", "()V"⟩
def RJx4a65c : String := "java/util/ArrayList"
def TJx4a65c : u_T := fun k => match k with
  | 0 => ("java/util/AbstractList", "modCount", "I", false)
  | 1 => ("java/util/ArrayList", "elementData", "[Ljava/lang/Object;", false)
  | _ => ("java/util/ArrayList", "size", "I", false)
def tyJx4a65c : Nat → FieldType := fun k => match k with
  | 0 => .int
  | 1 => .array (.object "java/lang/Object")
  | _ => .int
abbrev wsJx4a65c0 : List Cond := u_ws RJx4a65c TJx4a65c 3
theorem nmJx4a65c : ∀ a, a < 3 → ∀ b, b < 3 → a ≠ b → (TJx4a65c a).2.1 ≠ (TJx4a65c b).2.1 := by decide +kernel
theorem tyJx4a65c_ok : ∀ k, k < 3 → parseFieldDescriptor (TJx4a65c k).2.2.1 = some (tyJx4a65c k) := by decide +kernel
abbrev cJx4a65c_init_da8c8 : ByteArray := prog_35_method_2_code
def yJx4a65c_init_da8c8 : MethodName := ⟨RJx4a65c, "<init>", "()V"⟩
abbrev cJx4a65c_grow_92f84 : ByteArray := prog_35_method_6_code
def yJx4a65c_grow_92f84 : MethodName := ⟨RJx4a65c, "grow", "(I)[Ljava/lang/Object;"⟩
abbrev cJx4a65c_grow_d5877 : ByteArray := prog_35_method_7_code
def yJx4a65c_grow_d5877 : MethodName := ⟨RJx4a65c, "grow", "()[Ljava/lang/Object;"⟩
abbrev cJx4a65c_size_8abf5 : ByteArray := prog_35_method_8_code
def yJx4a65c_size_8abf5 : MethodName := ⟨RJx4a65c, "size", "()I"⟩
abbrev cJx4a65c_elementData_915e3 : ByteArray := prog_35_method_18_code
def yJx4a65c_elementData_915e3 : MethodName := ⟨RJx4a65c, "elementData", "(I)Ljava/lang/Object;"⟩
abbrev cJx4a65c_get_915e3 : ByteArray := prog_35_method_20_code
def yJx4a65c_get_915e3 : MethodName := ⟨RJx4a65c, "get", "(I)Ljava/lang/Object;"⟩
abbrev cJx4a65c_add_72be8 : ByteArray := prog_35_method_24_code
def yJx4a65c_add_72be8 : MethodName := ⟨RJx4a65c, "add", "(Ljava/lang/Object;[Ljava/lang/Object;I)V"⟩
abbrev cJx4a65c_add_9ea2d : ByteArray := prog_35_method_25_code
def yJx4a65c_add_9ea2d : MethodName := ⟨RJx4a65c, "add", "(Ljava/lang/Object;)Z"⟩
abbrev cJx4a65c_add_7a177 : ByteArray := prog_35_method_26_code
def yJx4a65c_add_7a177 : MethodName := ⟨RJx4a65c, "add", "(ILjava/lang/Object;)V"⟩
abbrev cJx4a65c_remove_915e3 : ByteArray := prog_35_method_29_code
def yJx4a65c_remove_915e3 : MethodName := ⟨RJx4a65c, "remove", "(I)Ljava/lang/Object;"⟩
abbrev cJx4a65c_fastRemove_b59b0 : ByteArray := prog_35_method_39_code
def yJx4a65c_fastRemove_b59b0 : MethodName := ⟨RJx4a65c, "fastRemove", "([Ljava/lang/Object;I)V"⟩
abbrev cJx4a65c_rangeCheckForAdd_d00df : ByteArray := prog_35_method_45_code
def yJx4a65c_rangeCheckForAdd_d00df : MethodName := ⟨RJx4a65c, "rangeCheckForAdd", "(I)V"⟩
abbrev cJx4a65c_outOfBoundsMsg_b52d3 : ByteArray := prog_35_method_46_code
def yJx4a65c_outOfBoundsMsg_b52d3 : MethodName := ⟨RJx4a65c, "outOfBoundsMsg", "(I)Ljava/lang/String;"⟩
def RJ7 : String := "java/util/Arrays"
def TJ7 : u_T := fun k => match k with
  | _ => ("", "", "", false)
def tyJ7 : Nat → FieldType := fun k => match k with
  | _ => .int
abbrev wsJ70 : List Cond := u_ws RJ7 TJ7 0
theorem nmJ7 : ∀ a, a < 0 → ∀ b, b < 0 → a ≠ b → (TJ7 a).2.1 ≠ (TJ7 b).2.1 := by decide +kernel
theorem tyJ7_ok : ∀ k, k < 0 → parseFieldDescriptor (TJ7 k).2.2.1 = some (tyJ7 k) := by decide +kernel
abbrev cJ7_fill_53178 : ByteArray := prog_36_method_103_code
def yJ7_fill_53178 : MethodName := ⟨RJ7, "fill", "([II)V"⟩
abbrev cJ7_copyOf_1904c : ByteArray := prog_36_method_119_code
def yJ7_copyOf_1904c : MethodName := ⟨RJ7, "copyOf", "([Ljava/lang/Object;I)[Ljava/lang/Object;"⟩
abbrev cJ7_copyOf_6403c : ByteArray := prog_36_method_120_code
def yJ7_copyOf_6403c : MethodName := ⟨RJ7, "copyOf", "([Ljava/lang/Object;ILjava/lang/Class;)[Ljava/lang/Object;"⟩
abbrev cJ7_copyOf_9075b : ByteArray := prog_36_method_121_code
def yJ7_copyOf_9075b : MethodName := ⟨RJ7, "copyOf", "([BI)[B"⟩
abbrev cJ7_checkLength_df160 : ByteArray := prog_36_method_131_code
def yJ7_checkLength_df160 : MethodName := ⟨RJ7, "checkLength", "(II)V"⟩
abbrev cJ7_copyOfRange_39247 : ByteArray := prog_36_method_132_code
def yJ7_copyOfRange_39247 : MethodName := ⟨RJ7, "copyOfRange", "([BII)[B"⟩
abbrev cJ7_copyOfRangeByte_39247 : ByteArray := prog_36_method_133_code
def yJ7_copyOfRangeByte_39247 : MethodName := ⟨RJ7, "copyOfRangeByte", "([BII)[B"⟩
def RJx5ef63 : String := "java/util/Collection"
def TJx5ef63 : u_T := fun k => match k with
  | _ => ("", "", "", false)
def tyJx5ef63 : Nat → FieldType := fun k => match k with
  | _ => .int
abbrev wsJx5ef630 : List Cond := u_ws RJx5ef63 TJx5ef63 0
theorem nmJx5ef63 : ∀ a, a < 0 → ∀ b, b < 0 → a ≠ b → (TJx5ef63 a).2.1 ≠ (TJx5ef63 b).2.1 := by decide +kernel
theorem tyJx5ef63_ok : ∀ k, k < 0 → parseFieldDescriptor (TJx5ef63 k).2.2.1 = some (tyJx5ef63 k) := by decide +kernel
def RJxbd725 : String := "java/util/List"
def TJxbd725 : u_T := fun k => match k with
  | _ => ("", "", "", false)
def tyJxbd725 : Nat → FieldType := fun k => match k with
  | _ => .int
abbrev wsJxbd7250 : List Cond := u_ws RJxbd725 TJxbd725 0
theorem nmJxbd725 : ∀ a, a < 0 → ∀ b, b < 0 → a ≠ b → (TJxbd725 a).2.1 ≠ (TJxbd725 b).2.1 := by decide +kernel
theorem tyJxbd725_ok : ∀ k, k < 0 → parseFieldDescriptor (TJxbd725 k).2.2.1 = some (tyJxbd725 k) := by decide +kernel
def RJ15 : String := "java/util/Objects"
def TJ15 : u_T := fun k => match k with
  | _ => ("", "", "", false)
def tyJ15 : Nat → FieldType := fun k => match k with
  | _ => .int
abbrev wsJ150 : List Cond := u_ws RJ15 TJ15 0
theorem nmJ15 : ∀ a, a < 0 → ∀ b, b < 0 → a ≠ b → (TJ15 a).2.1 ≠ (TJ15 b).2.1 := by decide +kernel
theorem tyJ15_ok : ∀ k, k < 0 → parseFieldDescriptor (TJ15 k).2.2.1 = some (tyJ15 k) := by decide +kernel
abbrev cJ15_checkIndex_7cf53 : ByteArray := prog_39_method_17_code
def yJ15_checkIndex_7cf53 : MethodName := ⟨RJ15, "checkIndex", "(II)I"⟩
def RJxf0a74 : String := "java/util/RandomAccess"
def TJxf0a74 : u_T := fun k => match k with
  | _ => ("", "", "", false)
def tyJxf0a74 : Nat → FieldType := fun k => match k with
  | _ => .int
abbrev wsJxf0a740 : List Cond := u_ws RJxf0a74 TJxf0a74 0
theorem nmJxf0a74 : ∀ a, a < 0 → ∀ b, b < 0 → a ≠ b → (TJxf0a74 a).2.1 ≠ (TJxf0a74 b).2.1 := by decide +kernel
theorem tyJxf0a74_ok : ∀ k, k < 0 → parseFieldDescriptor (TJxf0a74 k).2.2.1 = some (tyJxf0a74 k) := by decide +kernel
def RJxa66e6 : String := "java/util/SequencedCollection"
def TJxa66e6 : u_T := fun k => match k with
  | _ => ("", "", "", false)
def tyJxa66e6 : Nat → FieldType := fun k => match k with
  | _ => .int
abbrev wsJxa66e60 : List Cond := u_ws RJxa66e6 TJxa66e6 0
theorem nmJxa66e6 : ∀ a, a < 0 → ∀ b, b < 0 → a ≠ b → (TJxa66e6 a).2.1 ≠ (TJxa66e6 b).2.1 := by decide +kernel
theorem tyJxa66e6_ok : ∀ k, k < 0 → parseFieldDescriptor (TJxa66e6 k).2.2.1 = some (tyJxa66e6 k) := by decide +kernel
def RJ8 : String := "jdk/internal/util/ArraysSupport"
def TJ8 : u_T := fun k => match k with
  | _ => ("", "", "", false)
def tyJ8 : Nat → FieldType := fun k => match k with
  | _ => .int
abbrev wsJ80 : List Cond := u_ws RJ8 TJ8 0
theorem nmJ8 : ∀ a, a < 0 → ∀ b, b < 0 → a ≠ b → (TJ8 a).2.1 ≠ (TJ8 b).2.1 := by decide +kernel
theorem tyJ8_ok : ∀ k, k < 0 → parseFieldDescriptor (TJ8 k).2.2.1 = some (tyJ8 k) := by decide +kernel
abbrev cJ8_newLength_cabcc : ByteArray := prog_42_method_27_code
def yJ8_newLength_cabcc : MethodName := ⟨RJ8, "newLength", "(III)I"⟩
abbrev cJ8_hugeLength_7cf53 : ByteArray := prog_42_method_28_code
def yJ8_hugeLength_7cf53 : MethodName := ⟨RJ8, "hugeLength", "(II)I"⟩
def RJ3 : String := "jdk/internal/util/Preconditions"
def TJ3 : u_T := fun k => match k with
  | _ => ("", "", "", false)
def tyJ3 : Nat → FieldType := fun k => match k with
  | _ => .int
abbrev wsJ30 : List Cond := u_ws RJ3 TJ3 0
theorem nmJ3 : ∀ a, a < 0 → ∀ b, b < 0 → a ≠ b → (TJ3 a).2.1 ≠ (TJ3 b).2.1 := by decide +kernel
theorem tyJ3_ok : ∀ k, k < 0 → parseFieldDescriptor (TJ3 k).2.2.1 = some (tyJ3 k) := by decide +kernel
abbrev cJ3_checkIndex_8e157 : ByteArray := prog_43_method_11_code
def yJ3_checkIndex_8e157 : MethodName := ⟨RJ3, "checkIndex", "(IILjava/util/function/BiFunction;)I"⟩
abbrev cJ3_checkFromToIndex_8c36e : ByteArray := prog_43_method_12_code
def yJ3_checkFromToIndex_8c36e : MethodName := ⟨RJ3, "checkFromToIndex", "(IIILjava/util/function/BiFunction;)I"⟩
abbrev cJ3_checkFromIndexSize_8c36e : ByteArray := prog_43_method_13_code
def yJ3_checkFromIndexSize_8c36e : MethodName := ⟨RJ3, "checkFromIndexSize", "(IIILjava/util/function/BiFunction;)I"⟩
def RL : String := "HarborTidesLaw"
abbrev cL_table : ByteArray := method_3_code
def yL_table : MethodName := ⟨RL, "table", "(LHarborTides;II[J)I"⟩
abbrev cL_wind : ByteArray := method_4_code
def yL_wind : MethodName := ⟨RL, "wind", "(LHarborTides;III[J)I"⟩
abbrev cL_depth : ByteArray := method_5_code
def yL_depth : MethodName := ⟨RL, "depth", "(LHarborTides;I[J)I"⟩
abbrev cL_berth : ByteArray := method_6_code
def yL_berth : MethodName := ⟨RL, "berth", "(LHarborTides;II[J)I"⟩
abbrev cL_ship : ByteArray := method_7_code
def yL_ship : MethodName := ⟨RL, "ship", "(LHarborTides;IIII[J)I"⟩
abbrev cL_order : ByteArray := method_8_code
def yL_order : MethodName := ⟨RL, "order", "(LHarborTides;II[J)I"⟩
abbrev cL_cancel : ByteArray := method_9_code
def yL_cancel : MethodName := ⟨RL, "cancel", "(LHarborTides;I[J)I"⟩
abbrev cL_hasWater : ByteArray := method_10_code
def yL_hasWater : MethodName := ⟨RL, "hasWater", "(LHarborTides;II[J)I"⟩
abbrev cL_state : ByteArray := method_11_code
def yL_state : MethodName := ⟨RL, "state", "(LHarborTides;I[J)I"⟩
abbrev cL_queue : ByteArray := method_12_code
def yL_queue : MethodName := ⟨RL, "queue", "(LHarborTides;I[J)I"⟩
abbrev cL_pass : ByteArray := method_13_code
def yL_pass : MethodName := ⟨RL, "pass", "(LHarborTides;I[J)I"⟩
abbrev cL_swap : ByteArray := method_14_code
def yL_swap : MethodName := ⟨RL, "swap", "(LHarborTides;II[J)I"⟩
abbrev cL_rota : ByteArray := method_15_code
def yL_rota : MethodName := ⟨RL, "rota", "(LHarborTides;I[J)I"⟩
abbrev cL_isReady : ByteArray := method_16_code
def yL_isReady : MethodName := ⟨RL, "isReady", "(LHarborTides;I[J)I"⟩
abbrev cL_move : ByteArray := method_17_code
def yL_move : MethodName := ⟨RL, "move", "(LHarborTides;I[J)I"⟩
abbrev cL_isSound : ByteArray := method_18_code
def yL_isSound : MethodName := ⟨RL, "isSound", "(LHarborTides;I[J)I"⟩
abbrev cL_paid : ByteArray := method_19_code
def yL_paid : MethodName := ⟨RL, "paid", "(LHarborTides;I[J)I"⟩
abbrev cL_earned : ByteArray := method_20_code
def yL_earned : MethodName := ⟨RL, "earned", "(LHarborTides;I[J)I"⟩
abbrev cL_lost : ByteArray := method_21_code
def yL_lost : MethodName := ⟨RL, "lost", "(LHarborTides;I[J)I"⟩
abbrev cL_claims : ByteArray := method_22_code
def yL_claims : MethodName := ⟨RL, "claims", "(LHarborTides;I[J)I"⟩
abbrev cL_payClaim : ByteArray := method_23_code
def yL_payClaim : MethodName := ⟨RL, "payClaim", "(LHarborTides;I[J)I"⟩
abbrev cL_law : ByteArray := code
def yL_law : MethodName := ⟨RL, "law", "([I)Z"⟩
abbrev vwCl : List vw_C := [(RJ0, TJ0, 4), (RJ4, TJ4, 4), (RJx4a65c, TJx4a65c, 3), (RX0, TX0, 1), (RX1, TX1, 5), (RX2, TX2, 1), (RX3, TX3, 2), (RX4, TX4, 11), (RX5, TX5, 3), (RX6, TX6, 8), (RX7, TX7, 26)]
end
section
/-! THE LAYER: a method's walk over a world that is a predicate on heaps; locals as a list; the static things in one hypothesis. -/
def TB : List Cond := lw_tbl.filter goodWord
theorem TB_in {w : Cond} (h : w ∈ lw_tbl) (g : goodWord w = true) : w ∈ TB := List.mem_filter.mpr ⟨h, g⟩
theorem TB_good {w : Cond} (h : w ∈ TB) : (w.onTables && w.keeps) = true ∨ ∃ ty, w = .arrayClass ty := good_of_word (List.mem_filter.mp h).2
theorem TB_sub {ws : List Cond} (h : ∀ w ∈ ws, w ∈ TB) : GoodIn TB ws := fun w hw => ⟨h w hw, TB_good (h w hw)⟩
theorem TB_all {args : Array Value} {s : State} (h : ∀ w ∈ lw_tbl, w.before args s = true) : ∀ w ∈ TB, w.before args s = true := fun w hw => h w (List.mem_filter.mp hw).1
/-- the arrays' classes: int, boolean, Object, long -/
abbrev hbT (Y : Nat → ClassId) : List (ClassId × FieldType) := [(Y 0, .int), (Y 1, .boolean), (Y 2, .object "java/lang/Object"), (Y 3, .long)]
/-- E speaks of the tables and of cells outside A alone -/
def hbC (A : Nat → Prop) (E : State → Prop) : Prop := ∀ s U : State, E s → s.vm.Alike U.vm → (∀ q : Nat, q < s.heap.size → ¬ A q → U.heap[q]? = s.heap[q]?) → E U
def WS (D : va_G) (Y : Nat → ClassId) (A : Nat → Prop) (E : State → Prop) (U : State) : Prop := (∀ q : Nat, U.heap.size ≤ q → A q) ∧ va_K D vwCl (hbT Y) U ∧ E U ∧ hbC A E
theorem WS.moved {D : va_G} {Y : Nat → ClassId} {A : Nat → Prop} {E : State → Prop} {s U : State} (h : WS D Y A E s) (hvm : s.vm.Alike U.vm) (hz : s.heap.size ≤ U.heap.size) (hq : ∀ q : Nat, q < s.heap.size → ¬ A q → U.heap[q]? = s.heap[q]?) : WS D Y A E U :=
  ⟨fun q h1 => h.1 q (Nat.le_trans hz h1), va_K.moved hvm h.2.1, h.2.2.2 s U h.2.2.1 hvm hq, h.2.2.2⟩
/-- the locals' list: the value at a place, and a new value at a place -/
def lk : List (Nat × Value) → Nat → Option Value
  | [], _ => none
  | (j, v) :: r, i => match Nat.beq j i with
    | true => some v
    | false => lk r i
def lset : List (Nat × Value) → Nat → Value → List (Nat × Value)
  | [], i, v => [(i, v)]
  | (j, w) :: r, i, v => match Nat.beq j i with
    | true => (i, v) :: r
    | false => (j, w) :: lset r i v
theorem lk_mem : ∀ {L : List (Nat × Value)} {i : Nat} {v : Value}, lk L i = some v → (i, v) ∈ L
  | [], i, v, h => by cases h
  | (j, w) :: r, i, v, h => by
    unfold lk at h
    split at h
    · rename_i hb
      have := Nat.eq_of_beq_eq_true hb
      subst this
      cases h
      exact List.mem_cons_self
    · exact List.mem_cons_of_mem _ (lk_mem h)
theorem lset_mem : ∀ {L : List (Nat × Value)} {i : Nat} {v : Value} {q : Nat × Value}, q ∈ lset L i v → q = (i, v) ∨ (q ∈ L ∧ q.1 ≠ i) ∨ (q ∈ L ∧ q.1 = i)
  | [], i, v, q, h => by
    rcases List.mem_cons.mp h with h | h
    · exact Or.inl h
    · cases h
  | (j, w) :: r, i, v, q, h => by
    unfold lset at h
    split at h
    · rcases List.mem_cons.mp h with h | h
      · exact Or.inl h
      · by_cases e : q.1 = i
        · exact Or.inr (Or.inr ⟨List.mem_cons_of_mem _ h, e⟩)
        · exact Or.inr (Or.inl ⟨List.mem_cons_of_mem _ h, e⟩)
    · rename_i hb
      rcases List.mem_cons.mp h with h | h
      · by_cases e : q.1 = i
        · exact Or.inr (Or.inr ⟨by rw [h]; exact List.mem_cons_self, e⟩)
        · exact Or.inr (Or.inl ⟨by rw [h]; exact List.mem_cons_self, e⟩)
      · rcases lset_mem h with h | ⟨h, e⟩ | ⟨h, e⟩
        · exact Or.inl h
        · exact Or.inr (Or.inl ⟨List.mem_cons_of_mem _ h, e⟩)
        · exact Or.inr (Or.inr ⟨List.mem_cons_of_mem _ h, e⟩)
/-- each place once -/
def lnd : List (Nat × Value) → Bool
  | [] => true
  | (j, _) :: r => (r.all fun q => !(Nat.beq q.1 j)) && lnd r
theorem lset_of : ∀ {L : List (Nat × Value)} {i : Nat} {v : Value}, lnd L = true → (∀ q ∈ L, q.2.category = 1) → ∀ q ∈ lset L i v, q ∈ (i, v) :: L.filter (fun q => !(q.1 == i) && !(q.1 + 1 == i && q.2.category == 2))
  | [], i, v, _, _, q, h => by
    rcases List.mem_cons.mp h with h | h
    · rw [h]; exact List.mem_cons_self
    · cases h
  | (j, w) :: r, i, v, hn, hc, q, h => by
    simp only [lnd, Bool.and_eq_true, List.all_eq_true] at hn
    unfold lset at h
    split at h
    · rename_i hb
      have e := Nat.eq_of_beq_eq_true hb
      subst e
      rcases List.mem_cons.mp h with h | h
      · rw [h]; exact List.mem_cons_self
      · refine List.mem_cons_of_mem _ (List.mem_filter.mpr ⟨List.mem_cons_of_mem _ h, ?_⟩)
        have h1 := hn.1 q h
        have h2 := hc q (List.mem_cons_of_mem _ h)
        have h3 : q.1 ≠ j := fun z => by rw [z, Nat.beq_refl] at h1; cases h1
        simp [h2, h3]
    · rename_i hb
      have e : j ≠ i := fun z => by rw [z, Nat.beq_refl] at hb; cases hb
      rcases List.mem_cons.mp h with h | h
      · refine List.mem_cons_of_mem _ (List.mem_filter.mpr ⟨by rw [h]; exact List.mem_cons_self, ?_⟩)
        have h2 := hc (j, w) List.mem_cons_self
        subst h
        simp at h2
        simp [h2, e]
      · have h5 := lset_of (i := i) (v := v) hn.2 (fun q hq => hc q (List.mem_cons_of_mem _ hq)) q h
        rcases List.mem_cons.mp h5 with h5 | h5
        · rw [h5]; exact List.mem_cons_self
        · have h6 := List.mem_filter.mp h5
          exact List.mem_cons_of_mem _ (List.mem_filter.mpr ⟨List.mem_cons_of_mem _ h6.1, h6.2⟩)
/-- the list is well made: each place once, no long -/
def lok (L : List (Nat × Value)) : Prop := lnd L = true ∧ ∀ q ∈ L, q.2.category = 1
theorem lset_nd : ∀ {L : List (Nat × Value)} {i : Nat} {v : Value}, lnd L = true → lnd (lset L i v) = true ∧ ∀ j : Nat, (L.all fun q => !(Nat.beq q.1 j)) = true → Nat.beq i j = false → ((lset L i v).all fun q => !(Nat.beq q.1 j)) = true
  | [], i, v, _ => ⟨rfl, fun j _ h => by simp [lset, h]⟩
  | (k, w) :: r, i, v, hn => by
    simp only [lnd, Bool.and_eq_true] at hn
    have ih := lset_nd (i := i) (v := v) hn.2
    unfold lset
    split
    · rename_i hb
      have e := Nat.eq_of_beq_eq_true hb
      subst e
      refine ⟨by simp only [lnd, Bool.and_eq_true]; exact hn, fun j h1 h2 => ?_⟩
      simp only [List.all_cons, Bool.and_eq_true] at h1 ⊢
      exact ⟨by simp [h2], h1.2⟩
    · rename_i hb
      refine ⟨?_, fun j h1 h2 => ?_⟩
      · simp only [lnd, Bool.and_eq_true]
        refine ⟨ih.2 k hn.1 ?_, ih.1⟩
        cases hz : Nat.beq i k with
        | false => rfl
        | true =>
          have e := Nat.eq_of_beq_eq_true hz
          rw [e, Nat.beq_refl] at hb
          cases hb
      · simp only [List.all_cons, Bool.and_eq_true] at h1 ⊢
        exact ⟨h1.1, ih.2 j h1.2 h2⟩
theorem lok.set {L : List (Nat × Value)} {i : Nat} {v : Value} (h : lok L) (hv : v.category = 1) : lok (lset L i v) :=
  ⟨(lset_nd h.1).1, fun q hq => by
    rcases lset_mem hq with e | ⟨e, -⟩ | ⟨e, -⟩
    · rw [e]; exact hv
    · exact h.2 q e
    · exact h.2 q e⟩
theorem lset_has {ls : Array Slot} {nL : Nat} {L : List (Nat × Value)} {i : Nat} {v : Value} (hk : lok L) (h : lv_has ls nL ((i, v) :: L.filter (fun q => !(q.1 == i) && !(q.1 + 1 == i && q.2.category == 2)))) : lv_has ls nL (lset L i v) :=
  ⟨h.1, h.2.1, fun q hq => h.2.2 q (lset_of hk.1 hk.2 q hq)⟩
/-- the static things of a running method -/
def CX (p : Program) (l : Launch) (s : State) (m : MethodId) (args : Array Value) (meth : Method) (c : Code) (own : String) (cc : ByteArray) (nL : Nat) (ret : Option FieldType) (D : va_G) (Y : Nat → ClassId) (A : Nat → Prop) (E : State → Prop) : Prop :=
  p.tables.exec = Jvm.exec ∧ c.code = cc ∧ c.maxLocals = nL ∧ s.vm.findClass own = some m.cls ∧ (∀ w ∈ TB, w.before args s = true) ∧ meth.sig.returnType = ret ∧ meth.locks = false ∧ WS D Y A E s ∧ l.stackTraces = false
/-- the walk stands at pc with these locals and this stack, in a heap of which the world holds -/
def J (p : Program) (l : Launch) (e : Env) (R : Room) (s : State) (m : MethodId) (args : Array Value) (below : List Frame) (meth : Method) (c : Code) (A : Nat → Prop) (nL : Nat) (Q : State → Prop) (Ω : Heap → Prop) (cells slots : Nat) (pc : Nat) (L : List (Nat × Value)) (st : List Value) : Prop :=
  ∀ (H : Heap) (locs : List Loc) (ls : Array Slot), Ω H → va_S A s.heap H locs → lv_has ls nL L → lok L → W p l e R s m args below meth c H locs cells slots Q (F0 m pc ls st)
/-- a world of listed cells -/
def Ow (D : va_G) (A : Nat → Prop) (ws : va_W) : Heap → Prop := fun H => va_P D vwCl ws H ∧ va_D A ws

section JR
variable {p : Program} {l : Launch} {e : Env} {R : Room} {s : State} {m : MethodId} {args : Array Value} {below : List Frame} {meth : Method} {c : Code} {Q : State → Prop} {Ω Ω' : Heap → Prop} {cells slots pc nL : Nat} {L L' : List (Nat × Value)} {st rest : List Value} {own : String} {cc : ByteArray} {ret : Option FieldType} {D : va_G} {Y : Nat → ClassId} {A : Nat → Prop} {E : State → Prop}

theorem j_iconst (C0 : CX p l s m args meth c own cc nL ret D Y A E) {n : Int} {v : Int32} (d : decode cc pc = .ok (.iconst n, 1)) (hv : Int32.ofInt n = v) (kk : J p l e R s m args below meth c A nL Q Ω cells slots (pc + 1) L (.int v :: st)) : J p l e R s m args below meth c A nL Q Ω cells slots pc L st := fun H locs ls h1 h2 h3 h4 => lv_iconst C0.1 C0.2.1 d hv (kk H locs ls h1 h2 h3 h4)
theorem j_bipush (C0 : CX p l s m args meth c own cc nL ret D Y A E) {n : Int} {v : Int32} (d : decode cc pc = .ok (.bipush n, 2)) (hv : (Int8.ofInt n).toInt32 = v) (kk : J p l e R s m args below meth c A nL Q Ω cells slots (pc + 2) L (.int v :: st)) : J p l e R s m args below meth c A nL Q Ω cells slots pc L st := fun H locs ls h1 h2 h3 h4 => lv_bipush C0.1 C0.2.1 d hv (kk H locs ls h1 h2 h3 h4)
theorem j_sipush (C0 : CX p l s m args meth c own cc nL ret D Y A E) {n : Int} {v : Int32} (d : decode cc pc = .ok (.sipush n, 3)) (hv : (Int16.ofInt n).toInt32 = v) (kk : J p l e R s m args below meth c A nL Q Ω cells slots (pc + 3) L (.int v :: st)) : J p l e R s m args below meth c A nL Q Ω cells slots pc L st := fun H locs ls h1 h2 h3 h4 => lv_sipush C0.1 C0.2.1 d hv (kk H locs ls h1 h2 h3 h4)
theorem j_lconst (C0 : CX p l s m args meth c own cc nL ret D Y A E) {n : Fin 2} {v : Int64} (d : decode cc pc = .ok (.lconst n, 1)) (hv : Int64.ofNat (n : Nat) = v) (kk : J p l e R s m args below meth c A nL Q Ω cells slots (pc + 1) L (.long v :: st)) : J p l e R s m args below meth c A nL Q Ω cells slots pc L st := fun H locs ls h1 h2 h3 h4 => lv_lconst C0.1 C0.2.1 d hv (kk H locs ls h1 h2 h3 h4)
theorem j_iload_n (C0 : CX p l s m args meth c own cc nL ret D Y A E) {k : Fin 4} {x : Int32} (d : decode cc pc = .ok (.iload_n k, 1)) (h : lk L (k : Nat) = some (.int x)) (kk : J p l e R s m args below meth c A nL Q Ω cells slots (pc + 1) L (.int x :: st)) : J p l e R s m args below meth c A nL Q Ω cells slots pc L st := fun H locs ls h1 h2 h3 h4 => lv_iload_n C0.1 C0.2.1 d rfl (h3.2.2 _ (lk_mem h)) (kk H locs ls h1 h2 h3 h4)
theorem j_iload (C0 : CX p l s m args meth c own cc nL ret D Y A E) {i : Nat} {x : Int32} (d : decode cc pc = .ok (.iload i, 2)) (h : lk L i = some (.int x)) (kk : J p l e R s m args below meth c A nL Q Ω cells slots (pc + 2) L (.int x :: st)) : J p l e R s m args below meth c A nL Q Ω cells slots pc L st := fun H locs ls h1 h2 h3 h4 => lv_iload C0.1 C0.2.1 d (h3.2.2 _ (lk_mem h)) (kk H locs ls h1 h2 h3 h4)
theorem j_aload_n (C0 : CX p l s m args meth c own cc nL ret D Y A E) {k : Fin 4} {x : Nat} (d : decode cc pc = .ok (.aload_n k, 1)) (h : lk L (k : Nat) = some (.ref x)) (kk : J p l e R s m args below meth c A nL Q Ω cells slots (pc + 1) L (.ref x :: st)) : J p l e R s m args below meth c A nL Q Ω cells slots pc L st := fun H locs ls h1 h2 h3 h4 => lv_aload_n C0.1 C0.2.1 d rfl (h3.2.2 _ (lk_mem h)) (kk H locs ls h1 h2 h3 h4)
theorem j_aload (C0 : CX p l s m args meth c own cc nL ret D Y A E) {i : Nat} {x : Nat} (d : decode cc pc = .ok (.aload i, 2)) (h : lk L i = some (.ref x)) (kk : J p l e R s m args below meth c A nL Q Ω cells slots (pc + 2) L (.ref x :: st)) : J p l e R s m args below meth c A nL Q Ω cells slots pc L st := fun H locs ls h1 h2 h3 h4 => lv_aload C0.1 C0.2.1 d (h3.2.2 _ (lk_mem h)) (kk H locs ls h1 h2 h3 h4)
theorem j_istore_n (C0 : CX p l s m args meth c own cc nL ret D Y A E) {k : Fin 4} {x : Int32} (d : decode cc pc = .ok (.istore_n k, 1)) (hn : (k : Nat) < nL) (hL : lset L (k : Nat) (.int x) = L') (kk : J p l e R s m args below meth c A nL Q Ω cells slots (pc + 1) L' st) : J p l e R s m args below meth c A nL Q Ω cells slots pc L (.int x :: st) := fun H locs ls h1 h2 h3 h4 => lv_istore_n C0.1 C0.2.1 d rfl h3 hn rfl (fun ls' h' => kk H locs ls' h1 h2 (hL ▸ lset_has h4 h') (hL ▸ h4.set rfl))
theorem j_istore (C0 : CX p l s m args meth c own cc nL ret D Y A E) {i : Nat} {x : Int32} (d : decode cc pc = .ok (.istore i, 2)) (hn : i < nL) (hL : lset L i (.int x) = L') (kk : J p l e R s m args below meth c A nL Q Ω cells slots (pc + 2) L' st) : J p l e R s m args below meth c A nL Q Ω cells slots pc L (.int x :: st) := fun H locs ls h1 h2 h3 h4 => lv_istore C0.1 C0.2.1 d h3 hn rfl (fun ls' h' => kk H locs ls' h1 h2 (hL ▸ lset_has h4 h') (hL ▸ h4.set rfl))
theorem j_astore_n (C0 : CX p l s m args meth c own cc nL ret D Y A E) {k : Fin 4} {x : Nat} (d : decode cc pc = .ok (.astore_n k, 1)) (hn : (k : Nat) < nL) (hL : lset L (k : Nat) (.ref x) = L') (kk : J p l e R s m args below meth c A nL Q Ω cells slots (pc + 1) L' st) : J p l e R s m args below meth c A nL Q Ω cells slots pc L (.ref x :: st) := fun H locs ls h1 h2 h3 h4 => lv_astore_n C0.1 C0.2.1 d rfl h3 hn rfl (fun ls' h' => kk H locs ls' h1 h2 (hL ▸ lset_has h4 h') (hL ▸ h4.set rfl))
theorem j_astore (C0 : CX p l s m args meth c own cc nL ret D Y A E) {i : Nat} {x : Nat} (d : decode cc pc = .ok (.astore i, 2)) (hn : i < nL) (hL : lset L i (.ref x) = L') (kk : J p l e R s m args below meth c A nL Q Ω cells slots (pc + 2) L' st) : J p l e R s m args below meth c A nL Q Ω cells slots pc L (.ref x :: st) := fun H locs ls h1 h2 h3 h4 => lv_astore C0.1 C0.2.1 d h3 hn rfl (fun ls' h' => kk H locs ls' h1 h2 (hL ▸ lset_has h4 h') (hL ▸ h4.set rfl))
theorem j_iinc (C0 : CX p l s m args meth c own cc nL ret D Y A E) {i : Nat} {n : Int} {x v : Int32} (d : decode cc pc = .ok (.iinc i n, 3)) (h : lk L i = some (.int x)) (hv : x + Int32.ofInt n = v) (hn : i < nL) (hL : lset L i (.int v) = L') (kk : J p l e R s m args below meth c A nL Q Ω cells slots (pc + 3) L' st) : J p l e R s m args below meth c A nL Q Ω cells slots pc L st := by
  intro H locs ls h1 h2 h3 h4
  obtain ⟨k, hk⟩ := List.getElem?_of_mem (lk_mem h)
  exact lv_iinc C0.1 C0.2.1 d h3 hk hv hn rfl (fun ls' h' => kk H locs ls' h1 h2 (hL ▸ lset_has h4 h') (hL ▸ h4.set rfl))
theorem j_iadd (C0 : CX p l s m args meth c own cc nL ret D Y A E) {x y : Int32} (d : decode cc pc = .ok (.iadd, 1)) (kk : J p l e R s m args below meth c A nL Q Ω cells slots (pc + 1) L (.int (x + y) :: st)) : J p l e R s m args below meth c A nL Q Ω cells slots pc L (.int y :: .int x :: st) := fun H locs ls h1 h2 h3 h4 => lv_iadd C0.1 C0.2.1 d (kk H locs ls h1 h2 h3 h4)
theorem j_isub (C0 : CX p l s m args meth c own cc nL ret D Y A E) {x y : Int32} (d : decode cc pc = .ok (.isub, 1)) (kk : J p l e R s m args below meth c A nL Q Ω cells slots (pc + 1) L (.int (x - y) :: st)) : J p l e R s m args below meth c A nL Q Ω cells slots pc L (.int y :: .int x :: st) := fun H locs ls h1 h2 h3 h4 => lv_isub C0.1 C0.2.1 d (kk H locs ls h1 h2 h3 h4)
theorem j_imul (C0 : CX p l s m args meth c own cc nL ret D Y A E) {x y : Int32} (d : decode cc pc = .ok (.imul, 1)) (kk : J p l e R s m args below meth c A nL Q Ω cells slots (pc + 1) L (.int (x * y) :: st)) : J p l e R s m args below meth c A nL Q Ω cells slots pc L (.int y :: .int x :: st) := fun H locs ls h1 h2 h3 h4 => lv_imul C0.1 C0.2.1 d (kk H locs ls h1 h2 h3 h4)
theorem j_iand (C0 : CX p l s m args meth c own cc nL ret D Y A E) {x y : Int32} (d : decode cc pc = .ok (.iand, 1)) (kk : J p l e R s m args below meth c A nL Q Ω cells slots (pc + 1) L (.int (x &&& y) :: st)) : J p l e R s m args below meth c A nL Q Ω cells slots pc L (.int y :: .int x :: st) := fun H locs ls h1 h2 h3 h4 => lv_iand C0.1 C0.2.1 d (kk H locs ls h1 h2 h3 h4)
theorem j_ior (C0 : CX p l s m args meth c own cc nL ret D Y A E) {x y : Int32} (d : decode cc pc = .ok (.ior, 1)) (kk : J p l e R s m args below meth c A nL Q Ω cells slots (pc + 1) L (.int (x ||| y) :: st)) : J p l e R s m args below meth c A nL Q Ω cells slots pc L (.int y :: .int x :: st) := fun H locs ls h1 h2 h3 h4 => lv_ior C0.1 C0.2.1 d (kk H locs ls h1 h2 h3 h4)
theorem j_ixor (C0 : CX p l s m args meth c own cc nL ret D Y A E) {x y : Int32} (d : decode cc pc = .ok (.ixor, 1)) (kk : J p l e R s m args below meth c A nL Q Ω cells slots (pc + 1) L (.int (x ^^^ y) :: st)) : J p l e R s m args below meth c A nL Q Ω cells slots pc L (.int y :: .int x :: st) := fun H locs ls h1 h2 h3 h4 => lv_ixor C0.1 C0.2.1 d (kk H locs ls h1 h2 h3 h4)
theorem j_ishl (C0 : CX p l s m args meth c own cc nL ret D Y A E) {x y : Int32} (d : decode cc pc = .ok (.ishl, 1)) (kk : J p l e R s m args below meth c A nL Q Ω cells slots (pc + 1) L (.int (x <<< (y &&& 31)) :: st)) : J p l e R s m args below meth c A nL Q Ω cells slots pc L (.int y :: .int x :: st) := fun H locs ls h1 h2 h3 h4 => lv_ishl C0.1 C0.2.1 d (kk H locs ls h1 h2 h3 h4)
theorem j_ishr (C0 : CX p l s m args meth c own cc nL ret D Y A E) {x y : Int32} (d : decode cc pc = .ok (.ishr, 1)) (kk : J p l e R s m args below meth c A nL Q Ω cells slots (pc + 1) L (.int (x >>> (y &&& 31)) :: st)) : J p l e R s m args below meth c A nL Q Ω cells slots pc L (.int y :: .int x :: st) := fun H locs ls h1 h2 h3 h4 => lv_ishr C0.1 C0.2.1 d (kk H locs ls h1 h2 h3 h4)
theorem j_idiv (C0 : CX p l s m args meth c own cc nL ret D Y A E) {x y : Int32} (d : decode cc pc = .ok (.idiv, 1)) (hne : ¬ y = 0) (kk : J p l e R s m args below meth c A nL Q Ω cells slots (pc + 1) L (.int (x / y) :: st)) : J p l e R s m args below meth c A nL Q Ω cells slots pc L (.int y :: .int x :: st) := fun H locs ls h1 h2 h3 h4 => lv_idiv C0.1 C0.2.1 d hne (kk H locs ls h1 h2 h3 h4)
theorem j_irem (C0 : CX p l s m args meth c own cc nL ret D Y A E) {x y : Int32} (d : decode cc pc = .ok (.irem, 1)) (hne : ¬ y = 0) (kk : J p l e R s m args below meth c A nL Q Ω cells slots (pc + 1) L (.int (x - x / y * y) :: st)) : J p l e R s m args below meth c A nL Q Ω cells slots pc L (.int y :: .int x :: st) := fun H locs ls h1 h2 h3 h4 => lv_irem C0.1 C0.2.1 d hne (kk H locs ls h1 h2 h3 h4)
theorem j_ineg (C0 : CX p l s m args meth c own cc nL ret D Y A E) {x : Int32} (d : decode cc pc = .ok (.ineg, 1)) (kk : J p l e R s m args below meth c A nL Q Ω cells slots (pc + 1) L (.int (-x) :: st)) : J p l e R s m args below meth c A nL Q Ω cells slots pc L (.int x :: st) := fun H locs ls h1 h2 h3 h4 => lv_ineg C0.1 C0.2.1 d (kk H locs ls h1 h2 h3 h4)
theorem j_i2l (C0 : CX p l s m args meth c own cc nL ret D Y A E) {x : Int32} {v : Int64} (d : decode cc pc = .ok (.i2l, 1)) (hv : x.toInt64 = v) (kk : J p l e R s m args below meth c A nL Q Ω cells slots (pc + 1) L (.long v :: st)) : J p l e R s m args below meth c A nL Q Ω cells slots pc L (.int x :: st) := fun H locs ls h1 h2 h3 h4 => lv_i2l C0.1 C0.2.1 d hv (kk H locs ls h1 h2 h3 h4)
theorem j_dup (C0 : CX p l s m args meth c own cc nL ret D Y A E) {va : Value} (d : decode cc pc = .ok (.dup, 1)) (h : va.category = 1) (kk : J p l e R s m args below meth c A nL Q Ω cells slots (pc + 1) L (va :: va :: st)) : J p l e R s m args below meth c A nL Q Ω cells slots pc L (va :: st) := fun H locs ls h1 h2 h3 h4 => lv_dup C0.1 C0.2.1 d h (kk H locs ls h1 h2 h3 h4)
theorem j_pop (C0 : CX p l s m args meth c own cc nL ret D Y A E) {va : Value} (d : decode cc pc = .ok (.pop, 1)) (h : va.category = 1) (kk : J p l e R s m args below meth c A nL Q Ω cells slots (pc + 1) L st) : J p l e R s m args below meth c A nL Q Ω cells slots pc L (va :: st) := fun H locs ls h1 h2 h3 h4 => lv_pop C0.1 C0.2.1 d h (kk H locs ls h1 h2 h3 h4)
theorem j_dup2 (C0 : CX p l s m args meth c own cc nL ret D Y A E) {va vb : Value} (d : decode cc pc = .ok (.dup2, 1)) (h : va.category = 1) (h0 : vb.category = 1) (kk : J p l e R s m args below meth c A nL Q Ω cells slots (pc + 1) L (va :: vb :: va :: vb :: st)) : J p l e R s m args below meth c A nL Q Ω cells slots pc L (va :: vb :: st) := fun H locs ls h1 h2 h3 h4 => lv_dup2_11 C0.1 C0.2.1 d h h0 (kk H locs ls h1 h2 h3 h4)
theorem j_if_eq (C0 : CX p l s m args meth c own cc nL ret D Y A E) {x : Int32} {off : Int} (tgt : Nat) (d : decode cc pc = .ok (.ifCond .eq off, 3)) (ht : (pc : Int) + off = (tgt : Int)) (kt : x = 0 → J p l e R s m args below meth c A nL Q Ω cells slots tgt L st) (kf : ¬ x = 0 → J p l e R s m args below meth c A nL Q Ω cells slots (pc + 3) L st) : J p l e R s m args below meth c A nL Q Ω cells slots pc L (.int x :: st) := fun H locs ls h1 h2 h3 h4 => lv_if_eq C0.1 C0.2.1 d ht (fun z => kt z H locs ls h1 h2 h3 h4) (fun z => kf z H locs ls h1 h2 h3 h4)
theorem j_icmp_eq (C0 : CX p l s m args meth c own cc nL ret D Y A E) {x y : Int32} {off : Int} (tgt : Nat) (d : decode cc pc = .ok (.if_icmp .eq off, 3)) (ht : (pc : Int) + off = (tgt : Int)) (kt : x = y → J p l e R s m args below meth c A nL Q Ω cells slots tgt L st) (kf : ¬ x = y → J p l e R s m args below meth c A nL Q Ω cells slots (pc + 3) L st) : J p l e R s m args below meth c A nL Q Ω cells slots pc L (.int y :: .int x :: st) := fun H locs ls h1 h2 h3 h4 => lv_icmp_eq C0.1 C0.2.1 d ht (fun z => kt z H locs ls h1 h2 h3 h4) (fun z => kf z H locs ls h1 h2 h3 h4)
theorem j_if_lt (C0 : CX p l s m args meth c own cc nL ret D Y A E) {x : Int32} {off : Int} (tgt : Nat) (d : decode cc pc = .ok (.ifCond .lt off, 3)) (ht : (pc : Int) + off = (tgt : Int)) (kt : x < 0 → J p l e R s m args below meth c A nL Q Ω cells slots tgt L st) (kf : ¬ x < 0 → J p l e R s m args below meth c A nL Q Ω cells slots (pc + 3) L st) : J p l e R s m args below meth c A nL Q Ω cells slots pc L (.int x :: st) := fun H locs ls h1 h2 h3 h4 => lv_if_lt C0.1 C0.2.1 d ht (fun z => kt z H locs ls h1 h2 h3 h4) (fun z => kf z H locs ls h1 h2 h3 h4)
theorem j_icmp_lt (C0 : CX p l s m args meth c own cc nL ret D Y A E) {x y : Int32} {off : Int} (tgt : Nat) (d : decode cc pc = .ok (.if_icmp .lt off, 3)) (ht : (pc : Int) + off = (tgt : Int)) (kt : x < y → J p l e R s m args below meth c A nL Q Ω cells slots tgt L st) (kf : ¬ x < y → J p l e R s m args below meth c A nL Q Ω cells slots (pc + 3) L st) : J p l e R s m args below meth c A nL Q Ω cells slots pc L (.int y :: .int x :: st) := fun H locs ls h1 h2 h3 h4 => lv_icmp_lt C0.1 C0.2.1 d ht (fun z => kt z H locs ls h1 h2 h3 h4) (fun z => kf z H locs ls h1 h2 h3 h4)
theorem j_if_ge (C0 : CX p l s m args meth c own cc nL ret D Y A E) {x : Int32} {off : Int} (tgt : Nat) (d : decode cc pc = .ok (.ifCond .ge off, 3)) (ht : (pc : Int) + off = (tgt : Int)) (kt : 0 ≤ x → J p l e R s m args below meth c A nL Q Ω cells slots tgt L st) (kf : ¬ 0 ≤ x → J p l e R s m args below meth c A nL Q Ω cells slots (pc + 3) L st) : J p l e R s m args below meth c A nL Q Ω cells slots pc L (.int x :: st) := fun H locs ls h1 h2 h3 h4 => lv_if_ge C0.1 C0.2.1 d ht (fun z => kt z H locs ls h1 h2 h3 h4) (fun z => kf z H locs ls h1 h2 h3 h4)
theorem j_icmp_ge (C0 : CX p l s m args meth c own cc nL ret D Y A E) {x y : Int32} {off : Int} (tgt : Nat) (d : decode cc pc = .ok (.if_icmp .ge off, 3)) (ht : (pc : Int) + off = (tgt : Int)) (kt : y ≤ x → J p l e R s m args below meth c A nL Q Ω cells slots tgt L st) (kf : ¬ y ≤ x → J p l e R s m args below meth c A nL Q Ω cells slots (pc + 3) L st) : J p l e R s m args below meth c A nL Q Ω cells slots pc L (.int y :: .int x :: st) := fun H locs ls h1 h2 h3 h4 => lv_icmp_ge C0.1 C0.2.1 d ht (fun z => kt z H locs ls h1 h2 h3 h4) (fun z => kf z H locs ls h1 h2 h3 h4)
theorem j_if_gt (C0 : CX p l s m args meth c own cc nL ret D Y A E) {x : Int32} {off : Int} (tgt : Nat) (d : decode cc pc = .ok (.ifCond .gt off, 3)) (ht : (pc : Int) + off = (tgt : Int)) (kt : 0 < x → J p l e R s m args below meth c A nL Q Ω cells slots tgt L st) (kf : ¬ 0 < x → J p l e R s m args below meth c A nL Q Ω cells slots (pc + 3) L st) : J p l e R s m args below meth c A nL Q Ω cells slots pc L (.int x :: st) := fun H locs ls h1 h2 h3 h4 => lv_if_gt C0.1 C0.2.1 d ht (fun z => kt z H locs ls h1 h2 h3 h4) (fun z => kf z H locs ls h1 h2 h3 h4)
theorem j_icmp_gt (C0 : CX p l s m args meth c own cc nL ret D Y A E) {x y : Int32} {off : Int} (tgt : Nat) (d : decode cc pc = .ok (.if_icmp .gt off, 3)) (ht : (pc : Int) + off = (tgt : Int)) (kt : y < x → J p l e R s m args below meth c A nL Q Ω cells slots tgt L st) (kf : ¬ y < x → J p l e R s m args below meth c A nL Q Ω cells slots (pc + 3) L st) : J p l e R s m args below meth c A nL Q Ω cells slots pc L (.int y :: .int x :: st) := fun H locs ls h1 h2 h3 h4 => lv_icmp_gt C0.1 C0.2.1 d ht (fun z => kt z H locs ls h1 h2 h3 h4) (fun z => kf z H locs ls h1 h2 h3 h4)
theorem j_if_le (C0 : CX p l s m args meth c own cc nL ret D Y A E) {x : Int32} {off : Int} (tgt : Nat) (d : decode cc pc = .ok (.ifCond .le off, 3)) (ht : (pc : Int) + off = (tgt : Int)) (kt : x ≤ 0 → J p l e R s m args below meth c A nL Q Ω cells slots tgt L st) (kf : ¬ x ≤ 0 → J p l e R s m args below meth c A nL Q Ω cells slots (pc + 3) L st) : J p l e R s m args below meth c A nL Q Ω cells slots pc L (.int x :: st) := fun H locs ls h1 h2 h3 h4 => lv_if_le C0.1 C0.2.1 d ht (fun z => kt z H locs ls h1 h2 h3 h4) (fun z => kf z H locs ls h1 h2 h3 h4)
theorem j_icmp_le (C0 : CX p l s m args meth c own cc nL ret D Y A E) {x y : Int32} {off : Int} (tgt : Nat) (d : decode cc pc = .ok (.if_icmp .le off, 3)) (ht : (pc : Int) + off = (tgt : Int)) (kt : x ≤ y → J p l e R s m args below meth c A nL Q Ω cells slots tgt L st) (kf : ¬ x ≤ y → J p l e R s m args below meth c A nL Q Ω cells slots (pc + 3) L st) : J p l e R s m args below meth c A nL Q Ω cells slots pc L (.int y :: .int x :: st) := fun H locs ls h1 h2 h3 h4 => lv_icmp_le C0.1 C0.2.1 d ht (fun z => kt z H locs ls h1 h2 h3 h4) (fun z => kf z H locs ls h1 h2 h3 h4)
theorem j_if_ne (C0 : CX p l s m args meth c own cc nL ret D Y A E) {x : Int32} {off : Int} (tgt : Nat) (d : decode cc pc = .ok (.ifCond .ne off, 3)) (ht : (pc : Int) + off = (tgt : Int)) (kt : ¬ x = 0 → J p l e R s m args below meth c A nL Q Ω cells slots tgt L st) (kf : x = 0 → J p l e R s m args below meth c A nL Q Ω cells slots (pc + 3) L st) : J p l e R s m args below meth c A nL Q Ω cells slots pc L (.int x :: st) := fun H locs ls h1 h2 h3 h4 => lv_if_ne C0.1 C0.2.1 d ht (fun z => kt z H locs ls h1 h2 h3 h4) (fun z => kf z H locs ls h1 h2 h3 h4)
theorem j_icmp_ne (C0 : CX p l s m args meth c own cc nL ret D Y A E) {x y : Int32} {off : Int} (tgt : Nat) (d : decode cc pc = .ok (.if_icmp .ne off, 3)) (ht : (pc : Int) + off = (tgt : Int)) (kt : ¬ x = y → J p l e R s m args below meth c A nL Q Ω cells slots tgt L st) (kf : x = y → J p l e R s m args below meth c A nL Q Ω cells slots (pc + 3) L st) : J p l e R s m args below meth c A nL Q Ω cells slots pc L (.int y :: .int x :: st) := fun H locs ls h1 h2 h3 h4 => lv_icmp_ne C0.1 C0.2.1 d ht (fun z => kt z H locs ls h1 h2 h3 h4) (fun z => kf z H locs ls h1 h2 h3 h4)
theorem j_goto (C0 : CX p l s m args meth c own cc nL ret D Y A E) {off : Int} (tgt : Nat) (d : decode cc pc = .ok (.goto off, 3)) (ht : (pc : Int) + off = (tgt : Int)) (kk : J p l e R s m args below meth c A nL Q Ω cells slots tgt L st) : J p l e R s m args below meth c A nL Q Ω cells slots pc L st := fun H locs ls h1 h2 h3 h4 => lv_goto C0.1 C0.2.1 d ht (kk H locs ls h1 h2 h3 h4)
theorem j_widen {k n : Nat} (h1 : cells ≤ k) (h2 : slots ≤ n) (kk : J p l e R s m args below meth c A nL Q Ω k n pc L st) : J p l e R s m args below meth c A nL Q Ω cells slots pc L st := fun H locs ls a1 a2 a3 a4 => W.widen h1 h2 (kk H locs ls a1 a2 a3 a4)
/-- the world, said otherwise -/
theorem j_world (h : ∀ H, Ω H → Ω' H) (kk : J p l e R s m args below meth c A nL Q Ω' cells slots pc L st) : J p l e R s m args below meth c A nL Q Ω cells slots pc L st := fun H locs ls a1 a2 a3 a4 => kk H locs ls (h H a1) a2 a3 a4
/-- fewer locals -/
theorem j_locals (h : ∀ q ∈ L', q ∈ L) (hk : lok L') (kk : J p l e R s m args below meth c A nL Q Ω cells slots pc L' st) : J p l e R s m args below meth c A nL Q Ω cells slots pc L st := fun H locs ls a1 a2 a3 a4 => kk H locs ls a1 a2 ⟨a3.1, a3.2.1, fun q hq => a3.2.2 q (h q hq)⟩ hk
/-- what a method owes at its end: the answer, the world, nothing outside A -/
def KQ (A : Nat → Prop) (Ω' : Heap → Prop) (rv : Option Value) : Array Value → State → Outcome → State → Prop := fun _ st oc t => oc = .returned rv ∧ Ω' t.heap ∧ va_F A st t
theorem j_iret (C0 : CX p l s m args meth c own cc nL ret D Y A E) (hr : ret = some .int) {v : Int32} (d : decode cc pc = .ok (.ireturn, 1)) (hΩ : ∀ H, Ω H → Ω' H) : J p l e R s m args below meth c A nL (MQ below (KQ A Ω' (some (.int v))) args s cells slots A) Ω cells slots pc L [.int v] := fun H locs ls h1 h2 h3 h4 => W.iret C0.1 C0.2.1 (C0.2.2.2.2.2.1.trans hr) (fun t ht _ => ⟨rfl, by rw [ht]; exact hΩ H h1, h2.F ht⟩) h2.2.2 d C0.2.2.2.2.2.2.1
theorem j_zret (C0 : CX p l s m args meth c own cc nL ret D Y A E) (hr : ret = some .boolean) {v : Int32} (hv : narrow .boolean (.int v) = .int v) (d : decode cc pc = .ok (.ireturn, 1)) (hΩ : ∀ H, Ω H → Ω' H) : J p l e R s m args below meth c A nL (MQ below (KQ A Ω' (some (.int v))) args s cells slots A) Ω cells slots pc L [.int v] := fun H locs ls h1 h2 h3 h4 => W.zret C0.1 C0.2.1 (C0.2.2.2.2.2.1.trans hr) hv (fun t ht _ => ⟨rfl, by rw [ht]; exact hΩ H h1, h2.F ht⟩) h2.2.2 d C0.2.2.2.2.2.2.1
theorem j_vret (C0 : CX p l s m args meth c own cc nL ret D Y A E) (hr : ret = none) (d : decode cc pc = .ok (.return_, 1)) (hΩ : ∀ H, Ω H → Ω' H) : J p l e R s m args below meth c A nL (MQ below (KQ A Ω' none) args s cells slots A) Ω cells slots pc L [] := fun H locs ls h1 h2 h3 h4 => W.vret C0.1 C0.2.1 (C0.2.2.2.2.2.1.trans hr) (fun t ht _ => ⟨rfl, by rw [ht]; exact hΩ H h1, h2.F ht⟩) h2.2.2 d C0.2.2.2.2.2.2.1
theorem j_aret (C0 : CX p l s m args meth c own cc nL ret D Y A E) {rt : FieldType} (hr : ret = some rt) (hrt : (∃ n, rt = .object n) ∨ ∃ t, rt = .array t) {v : Nat} (d : decode cc pc = .ok (.areturn, 1)) (hΩ : ∀ H, Ω H → Ω' H) : J p l e R s m args below meth c A nL (MQ below (KQ A Ω' (some (.ref v))) args s cells slots A) Ω cells slots pc L [.ref v] := fun H locs ls h1 h2 h3 h4 => W.aret C0.1 C0.2.1 (C0.2.2.2.2.2.1.trans hr) hrt (Or.inr ⟨v, rfl⟩) (fun t ht _ => ⟨rfl, by rw [ht]; exact hΩ H h1, h2.F ht⟩) h2.2.2 d C0.2.2.2.2.2.2.1
theorem j_post {Q2 : State → Prop} (h : ∀ t, Q2 t → Q t) (kk : J p l e R s m args below meth c A nL Q2 Ω cells slots pc L st) : J p l e R s m args below meth c A nL Q Ω cells slots pc L st := fun H locs ls a1 a2 a3 a4 T hT X => by
  obtain ⟨t, b1, b2⟩ := kk H locs ls a1 a2 a3 a4 T hT X
  exact ⟨t, b1, h t b2⟩
end JR
/-- a contract: in this world, with these arguments, the method returns rv and leaves that world -/
def KM (l : Launch) (y : MethodName) (bytes : ByteArray) (mL : Nat) (rt : Option FieldType) (D : va_G) (Y : Nat → ClassId) (A : Nat → Prop) (E : State → Prop) (fr lo mc ms : Nat) (av : List Value) (Ω : Heap → Prop) (rv : Option Value) (Ω' : Heap → Prop) : Prop :=
  Met l y (Cond.code y bytes mL rt :: TB) { frames := fr, cells := mc, slots := ms, locals := lo } (fun v U => v = av.toArray ∧ WS D Y A E U ∧ Ω U.heap) (KQ A Ω' rv) mc ms A
theorem KM_of {l : Launch} {y : MethodName} {bytes : ByteArray} {mL : Nat} {rt : Option FieldType} {D : va_G} {Y : Nat → ClassId} {A : Nat → Prop} {E : State → Prop} {fr lo mc ms : Nat} {av : List Value} {Ω : Heap → Prop} {rv : Option Value} {Ω' : Heap → Prop} (own : String) (L : List (Nat × Value)) (ho : y.cls = own) (hy : plainName y.cls = true) (hl : l.stackTraces = false) (hav : (lg_sl av).length ≤ mL) (hL : lv_args 0 av = L) (hok : lok L)
    (body : ∀ (p : Program) (e : Env) (s : State) (m : MethodId) (args : Array Value) (below : List Frame) (meth : Method) (c : Code), CX p l s m args meth c own bytes mL rt D Y A E →
      J p l e { frames := fr, cells := mc, slots := ms, locals := lo } s m args below meth c A mL (MQ below (KQ A Ω' rv) args s mc ms A) Ω 0 0 0 L []) : KM l y bytes mL rt D Y A E fr lo mc ms av Ω rv Ω' := by
  refine Met.ofW (cc := bytes) (maxL := mL) (ret := rt) hy rfl ?_
  intro p e s m args below meth c s₁ B hml hv
  obtain ⟨rfl, hW, hΩ⟩ := hv
  have hts := atoms_spec (ws := Cond.code y bytes mL rt :: TB) B.pre
  have C0 : CX p l s m av.toArray meth c own bytes mL rt D Y A E := ⟨B.exec, B.bytes, hml, by rw [← ho]; exact findClass_of_methodNamed B.named, fun w hw => hts w (List.mem_cons_of_mem _ hw), B.returns, B.notSynchronized, hW, hl⟩
  rw [lg_entry_eq]
  have h3 := lv_entry av (n := mL) hav
  rw [hL] at h3
  exact body p e s m _ below meth c C0 s.heap [] _ hΩ va_S.rf h3 hok
theorem KM.blind {l : Launch} {D : va_G} {Y : Nat → ClassId} {A : Nat → Prop} {E : State → Prop} {av : List Value} {Ω : Heap → Prop} : FrameBlind (fun v U => v = av.toArray ∧ WS D Y A E U ∧ Ω U.heap) := fun a U g mk q => ⟨q.1, q.2.1.moved (U := U.calling g mk a) (Vm.Alike.refl U.vm) (Nat.le_refl _) (fun _ _ _ => rfl), q.2.2⟩
section JC
variable {p : Program} {l : Launch} {e : Env} {R : Room} {s : State} {m : MethodId} {args : Array Value} {below : List Frame} {meth : Method} {c : Code} {Q : State → Prop} {Ω Ω' : Heap → Prop} {cells slots pc nL : Nat} {L L' : List (Nat × Value)} {st rest stk : List Value} {own C : String} {cc bytes : ByteArray} {ret rt : Option FieldType} {D : va_G} {Y : Nat → ClassId} {A : Nat → Prop} {E : State → Prop} {y : MethodName} {mL fr lo mc ms n idx : Nat} {rv : Option Value} {b : Nat}
theorem hb_call {H : Heap} {locs : List Loc} {ls : Array Slot} {a : Array Value} {st0 : List Value} (hr : va_Run p l e R s m args below meth c H locs cells slots mc ms (F0 m pc ls st0) rest (KQ A Ω' rv a) A) (hS : va_S A s.heap H locs)
    (kk : ∀ (H1 : Heap) (locs1 : List Loc), Ω' H1 → va_S A s.heap H1 locs1 → W p l e R s m args below meth c H1 locs1 (cells + mc) (slots + ms) Q (F0 m (pc + 3) ls (rv.toList ++ rest))) : W p l e R s m args below meth c H locs cells slots Q (F0 m pc ls st0) := by
  intro T hT X
  obtain ⟨v, st₀, t, T', Ls, h0, X', hL, e1, e2, ⟨hv, hΩ, hz, hk⟩, sT⟩ := hr T hT X
  cases hv
  rw [h0] at hz hk
  obtain ⟨t2, a1, b1⟩ := kk T'.heap (locs ++ Ls) (by rw [e1]; exact hΩ)
    ⟨Nat.le_trans hS.1 (by rw [e1]; exact hz), fun q h1 h2 => by rw [e1, hk q (Nat.lt_of_lt_of_le h1 hS.1) h2]; exact hS.2.1 q h1 h2, fun q hq => by
      rcases List.mem_append.mp hq with h | h
      · exact hS.2.2 q h
      · exact hL q h⟩ T' rfl X'
  exact ⟨t2, sT t2 a1, b1⟩
theorem CX.pre (C0 : CX p l s m args meth c own cc nL ret D Y A E) {H : Heap} {locs : List Loc} (hS : va_S A s.heap H locs) {U : State} (hU : U.heap = H) (hW : s.WarmedH U.vm) : WS D Y A E U :=
  C0.2.2.2.2.2.2.2.1.moved hW.alike (by rw [hU]; exact hS.1) (fun q h1 h2 => by rw [hU]; exact hS.2.1 q h1 h2)
/-- the words of a callee: virtual, static -/
def MV (C : String) (y : MethodName) (bytes : ByteArray) (mL : Nat) (rt : Option FieldType) (n : Nat) : Prop := Cond.instanceMethod y ∈ TB ∧ Cond.selects C y y ∈ TB ∧ Cond.initialized C ∈ TB ∧ Cond.code y bytes mL rt ∈ TB ∧ (y.cls = C ∧ y.cls ≠ "java/lang/invoke/MethodHandle" ∧ y.cls ≠ "java/lang/invoke/VarHandle" ∧ (parseMethodDescriptor y.desc).map (fun d => d.parameters.length) = some n)
def MS (y : MethodName) (bytes : ByteArray) (mL : Nat) (rt : Option FieldType) (n : Nat) : Prop := Cond.static y ∈ TB ∧ Cond.initialized y.cls ∈ TB ∧ Cond.code y bytes mL rt ∈ TB ∧ (y.cls ≠ "java/lang/invoke/MethodHandle" ∧ y.cls ≠ "java/lang/invoke/VarHandle" ∧ (parseMethodDescriptor y.desc).map (fun d => d.parameters.length) = some n)
theorem MV.good (h : MV C y bytes mL rt n) (hl : Cond.methodLink own idx y ∈ TB) : GoodIn TB (wsV own idx C y (Cond.code y bytes mL rt :: TB)) := TB_sub (by
  obtain ⟨h1, h2, h3, h4, -⟩ := h
  intro w hw
  unfold wsV at hw
  rcases List.mem_append.mp hw with hw | hw
  · simp only [List.mem_cons, List.mem_nil_iff, or_false] at hw
    rcases hw with rfl | rfl | rfl | rfl <;> assumption
  · rcases List.mem_cons.mp hw with rfl | hw
    · exact h4
    · exact hw)
theorem MS.good (h : MS y bytes mL rt n) (hl : Cond.methodLink own idx y ∈ TB) : GoodIn TB (va_wsS own idx y (Cond.code y bytes mL rt :: TB)) := TB_sub (by
  obtain ⟨h1, h2, h3, -⟩ := h
  intro w hw
  unfold va_wsS at hw
  rcases List.mem_append.mp hw with hw | hw
  · simp only [List.mem_cons, List.mem_nil_iff, or_false] at hw
    rcases hw with rfl | rfl | rfl <;> assumption
  · rcases List.mem_cons.mp hw with rfl | hw
    · exact h3
    · exact hw)
/-- the receiver is an object of class C -/
def RV (s : State) (Ω : Heap → Prop) (C : String) (b : Nat) : Prop := ∀ H, Ω H → ∃ cell : Cell, H[b]? = some cell ∧ cell.vm.isStatics = false ∧ s.vm.findClass C = some cell.cls
theorem j_callVv (C0 : CX p l s m args meth c own cc nL ret D Y A E) {v : Value} {As : List Value} (hM : KM l y bytes mL rt D Y A E fr lo mc ms (.ref b :: As) Ω (some v) Ω') (hw : MV C y bytes mL rt n) (hl : Cond.methodLink own idx y ∈ TB) (hrec : RV s Ω C b) (hn : As.length = n) (hst : stk = As.reverse ++ .ref b :: rest) (hR : fr + 1 ≤ R.frames ∧ 8 + (mL + 11) + lo ≤ R.locals) (hc : (rest.map fun v => v.category).sum ≤ 8) (hf : cells + mc ≤ R.cells ∧ slots + ms ≤ R.slots) (d : decode cc pc = .ok (.invokevirtual idx, 3)) (kk : J p l e R s m args below meth c A nL Q Ω' (cells + mc) (slots + ms) (pc + 3) L (v :: rest)) : J p l e R s m args below meth c A nL Q Ω cells slots pc L stk := by
  intro H locs ls h1 h2 h3 h4
  subst hst
  exact hb_call (a := (.ref b :: As).toArray) (va_runV (As := As) (rest := rest) ⟨C0.1, C0.2.1, C0.2.2.1, C0.2.2.2.1, C0.2.2.2.2.1⟩ hM (cwV n C0.2.2.2.2.1 (hw.good hl) rfl rfl rfl hw.2.2.2.2 hR) ⟨KM.blind (l := l), hrec H h1, fun U hU hW => ⟨rfl, C0.pre h2 hU hW, by rw [hU]; exact h1⟩⟩ rfl hn h3.1 rfl (lv_room hc) d hf) h2 (fun H1 locs1 k1 k2 => kk H1 locs1 ls k1 k2 h3 h4)
theorem j_callVn (C0 : CX p l s m args meth c own cc nL ret D Y A E) {As : List Value} (hM : KM l y bytes mL rt D Y A E fr lo mc ms (.ref b :: As) Ω (none) Ω') (hw : MV C y bytes mL rt n) (hl : Cond.methodLink own idx y ∈ TB) (hrec : RV s Ω C b) (hn : As.length = n) (hst : stk = As.reverse ++ .ref b :: rest) (hR : fr + 1 ≤ R.frames ∧ 8 + (mL + 11) + lo ≤ R.locals) (hc : (rest.map fun v => v.category).sum ≤ 8) (hf : cells + mc ≤ R.cells ∧ slots + ms ≤ R.slots) (d : decode cc pc = .ok (.invokevirtual idx, 3)) (kk : J p l e R s m args below meth c A nL Q Ω' (cells + mc) (slots + ms) (pc + 3) L rest) : J p l e R s m args below meth c A nL Q Ω cells slots pc L stk := by
  intro H locs ls h1 h2 h3 h4
  subst hst
  exact hb_call (a := (.ref b :: As).toArray) (va_runV (As := As) (rest := rest) ⟨C0.1, C0.2.1, C0.2.2.1, C0.2.2.2.1, C0.2.2.2.2.1⟩ hM (cwV n C0.2.2.2.2.1 (hw.good hl) rfl rfl rfl hw.2.2.2.2 hR) ⟨KM.blind (l := l), hrec H h1, fun U hU hW => ⟨rfl, C0.pre h2 hU hW, by rw [hU]; exact h1⟩⟩ rfl hn h3.1 rfl (lv_room hc) d hf) h2 (fun H1 locs1 k1 k2 => kk H1 locs1 ls k1 k2 h3 h4)
theorem j_callSv (C0 : CX p l s m args meth c own cc nL ret D Y A E) {v : Value} {As : List Value} (hM : KM l y bytes mL rt D Y A E fr lo mc ms As Ω (some v) Ω') (hw : MS y bytes mL rt n) (hl : Cond.methodLink own idx y ∈ TB) (hn : As.length = n) (hst : stk = As.reverse ++ rest) (hR : fr + 1 ≤ R.frames ∧ 8 + (mL + 11) + lo ≤ R.locals) (hc : (rest.map fun v => v.category).sum ≤ 8) (hf : cells + mc ≤ R.cells ∧ slots + ms ≤ R.slots) (d : decode cc pc = .ok (.invokestatic idx, 3)) (kk : J p l e R s m args below meth c A nL Q Ω' (cells + mc) (slots + ms) (pc + 3) L (v :: rest)) : J p l e R s m args below meth c A nL Q Ω cells slots pc L stk := by
  intro H locs ls h1 h2 h3 h4
  subst hst
  exact hb_call (a := As.toArray) (va_runS (As := As) (rest := rest) ⟨C0.1, C0.2.1, C0.2.2.1, C0.2.2.2.1, C0.2.2.2.2.1⟩ hM (va_cwS n C0.2.2.2.2.1 (hw.good hl) rfl rfl rfl hw.2.2.2 hR) ⟨KM.blind (l := l), fun U hU hW => ⟨rfl, C0.pre h2 hU hW, by rw [hU]; exact h1⟩⟩ rfl hn h3.1 rfl (lv_room hc) d hf) h2 (fun H1 locs1 k1 k2 => kk H1 locs1 ls k1 k2 h3 h4)
theorem j_callSn (C0 : CX p l s m args meth c own cc nL ret D Y A E) {As : List Value} (hM : KM l y bytes mL rt D Y A E fr lo mc ms As Ω (none) Ω') (hw : MS y bytes mL rt n) (hl : Cond.methodLink own idx y ∈ TB) (hn : As.length = n) (hst : stk = As.reverse ++ rest) (hR : fr + 1 ≤ R.frames ∧ 8 + (mL + 11) + lo ≤ R.locals) (hc : (rest.map fun v => v.category).sum ≤ 8) (hf : cells + mc ≤ R.cells ∧ slots + ms ≤ R.slots) (d : decode cc pc = .ok (.invokestatic idx, 3)) (kk : J p l e R s m args below meth c A nL Q Ω' (cells + mc) (slots + ms) (pc + 3) L rest) : J p l e R s m args below meth c A nL Q Ω cells slots pc L stk := by
  intro H locs ls h1 h2 h3 h4
  subst hst
  exact hb_call (a := As.toArray) (va_runS (As := As) (rest := rest) ⟨C0.1, C0.2.1, C0.2.2.1, C0.2.2.2.1, C0.2.2.2.2.1⟩ hM (va_cwS n C0.2.2.2.2.1 (hw.good hl) rfl rfl rfl hw.2.2.2 hR) ⟨KM.blind (l := l), fun U hU hW => ⟨rfl, C0.pre h2 hU hW, by rw [hU]; exact h1⟩⟩ rfl hn h3.1 rfl (lv_room hc) d hf) h2 (fun H1 locs1 k1 k2 => kk H1 locs1 ls k1 k2 h3 h4)
end JC
section JH
variable {p : Program} {l : Launch} {e : Env} {R : Room} {s : State} {m : MethodId} {args : Array Value} {below : List Frame} {meth : Method} {c : Code} {Q : State → Prop} {cells slots pc nL : Nat} {L L' : List (Nat × Value)} {st rest : List Value} {own C : String} {cc : ByteArray} {ret : Option FieldType} {D : va_G} {Y : Nat → ClassId} {A : Nat → Prop} {E : State → Prop} {ws : va_W} {T : u_T} {N ci a index : Nat}
theorem j_recv (C0 : CX p l s m args meth c own cc nL ret D Y A E) (hc : vwCl[ci]? = some (C, T, N)) (q0 : Nat) {fs : List Value} (he : ws[q0]? = some (a, .inr (ci, fs))) : RV s (Ow D A ws) C a := fun _ h => va_recv C0.2.2.2.2.2.2.2.1.2.1 h.1 (q0 := q0) hc he
theorem j_get (C0 : CX p l s m args meth c own cc nL ret D Y A E) (hin : ∀ w ∈ u_ws C T N, w ∈ TB) (hc : vwCl[ci]? = some (C, T, N)) (q0 : Nat) {fs : List Value} (he : ws[q0]? = some (a, .inr (ci, fs))) (k : Nat) (hk : k < N) (hl : Cond.fieldLink own index (T k).1 (T k).2.1 (T k).2.2.1 ∈ TB) {v : Value} (hv : fs[k]? = some v) (d : decode cc pc = .ok (.getfield index, 3)) (kk : J p l e R s m args below meth c A nL Q (Ow D A ws) cells slots (pc + 3) L (v :: st)) : J p l e R s m args below meth c A nL Q (Ow D A ws) cells slots pc L (.ref a :: st) :=
  fun H locs ls h1 h2 h3 h4 => va_get C0.1 C0.2.1 C0.2.2.2.2.1 hin C0.2.2.2.1 C0.2.2.2.2.2.2.2.1.2.1 h1.1 q0 he hc k hk (C0.2.2.2.2.1 _ hl) (fun _ h9 => h9) hv d (kk H locs ls h1 h2 h3 h4)
theorem j_put (C0 : CX p l s m args meth c own cc nL ret D Y A E) (hin : ∀ w ∈ u_ws C T N, w ∈ TB) (ty : Nat → FieldType) (hty : ∀ k, k < N → parseFieldDescriptor (T k).2.2.1 = some (ty k)) (hnm : ∀ a, a < N → ∀ b, b < N → a ≠ b → (T a).2.1 ≠ (T b).2.1) (hc : vwCl[ci]? = some (C, T, N)) (q0 : Nat) {fs : List Value} (he : ws[q0]? = some (a, .inr (ci, fs))) (k : Nat) (hk : k < N) (hl : Cond.fieldLink own index (T k).1 (T k).2.1 (T k).2.2.1 ∈ TB) (hfin : (T k).2.2.2 = false) {t : FieldType} {v : Value} (hd : parseFieldDescriptor (T k).2.2.1 = some t) (hn : narrow t v = v) (hfit : fits t v = true) (hlen : k < fs.length) (d : decode cc pc = .ok (.putfield index, 3)) (kk : J p l e R s m args below meth c A nL Q (Ow D A (ws.set q0 (a, .inr (ci, fs.set k v)))) cells slots (pc + 3) L st) : J p l e R s m args below meth c A nL Q (Ow D A ws) cells slots pc L (v :: .ref a :: st) :=
  fun H locs ls h1 h2 h3 h4 => va_put C0.1 C0.2.1 C0.2.2.2.2.1 hin ty hty hnm C0.2.2.2.1 C0.2.2.2.2.2.2.2.1.2.1 h1.1 h1.2 h2 q0 he hc k hk (C0.2.2.2.2.1 _ hl) (fun _ h9 => h9) hfin hd hn hfit hlen d (fun H1 locs1 k1 k2 k3 => kk H1 locs1 ls ⟨k1, k2⟩ k3 h3 h4)
theorem j_iald (C0 : CX p l s m args meth c own cc nL ret D Y A E) (q0 : Nat) {n : Nat} {f : Nat → Int32} (he : ws[q0]? = some (a, .inl (Y 0, n, .inl f))) {i : Int32} (hi : vp_in i n) (d : decode cc pc = .ok (.iaload, 1)) (kk : J p l e R s m args below meth c A nL Q (Ow D A ws) cells slots (pc + 1) L (.int (f i.toNatClampNeg) :: st)) : J p l e R s m args below meth c A nL Q (Ow D A ws) cells slots pc L (.int i :: .ref a :: st) :=
  fun H locs ls h1 h2 h3 h4 => va_iald C0.1 C0.2.1 C0.2.2.2.2.2.2.2.1.2.1 h1.1 q0 0 he rfl hi d (kk H locs ls h1 h2 h3 h4)
theorem j_zald (C0 : CX p l s m args meth c own cc nL ret D Y A E) (q0 : Nat) {n : Nat} {f : Nat → Int32} (he : ws[q0]? = some (a, .inl (Y 1, n, .inl f))) {i : Int32} (hi : vp_in i n) (d : decode cc pc = .ok (.baload, 1)) (kk : J p l e R s m args below meth c A nL Q (Ow D A ws) cells slots (pc + 1) L (.int (f i.toNatClampNeg) :: st)) : J p l e R s m args below meth c A nL Q (Ow D A ws) cells slots pc L (.int i :: .ref a :: st) :=
  fun H locs ls h1 h2 h3 h4 => va_zald C0.1 C0.2.1 C0.2.2.2.2.2.2.2.1.2.1 h1.1 q0 1 he rfl hi d (kk H locs ls h1 h2 h3 h4)
theorem j_iast (C0 : CX p l s m args meth c own cc nL ret D Y A E) (q0 : Nat) {n : Nat} {f : Nat → Int32} (he : ws[q0]? = some (a, .inl (Y 0, n, .inl f))) {i x : Int32} (hi : vp_in i n) (d : decode cc pc = .ok (.iastore, 1)) (kk : J p l e R s m args below meth c A nL Q (Ow D A (ws.set q0 (a, .inl (Y 0, n, .inl (upd f i.toNatClampNeg x))))) cells slots (pc + 1) L st) : J p l e R s m args below meth c A nL Q (Ow D A ws) cells slots pc L (.int x :: .int i :: .ref a :: st) :=
  fun H locs ls h1 h2 h3 h4 => va_iast C0.1 C0.2.1 C0.2.2.2.2.2.2.2.1.2.1 h1.1 h1.2 h2 q0 0 he rfl hi d (fun H1 locs1 k1 k2 k3 => kk H1 locs1 ls ⟨k1, k2⟩ k3 h3 h4)
theorem j_zast (C0 : CX p l s m args meth c own cc nL ret D Y A E) (q0 : Nat) {n : Nat} {f : Nat → Int32} (he : ws[q0]? = some (a, .inl (Y 1, n, .inl f))) {i x : Int32} (hi : vp_in i n) (d : decode cc pc = .ok (.bastore, 1)) (kk : J p l e R s m args below meth c A nL Q (Ow D A (ws.set q0 (a, .inl (Y 1, n, .inl (upd f i.toNatClampNeg (vp_nar .boolean x)))))) cells slots (pc + 1) L st) : J p l e R s m args below meth c A nL Q (Ow D A ws) cells slots pc L (.int x :: .int i :: .ref a :: st) :=
  fun H locs ls h1 h2 h3 h4 => va_zast C0.1 C0.2.1 C0.2.2.2.2.2.2.2.1.2.1 h1.1 h1.2 h2 q0 1 he rfl hi d (fun H1 locs1 k1 k2 k3 => kk H1 locs1 ls ⟨k1, k2⟩ k3 h3 h4)
end JH
/-- a loop that counts: f at each turn -/
def nf {α : Type} (f : Nat → α → α) (a : α) : Nat → α
  | 0 => a
  | n + 1 => f n (nf f a n)
theorem hb_loop {α : Type} (P : Nat → α → Prop) (f : Nat → α → α) (a : α) (N : Nat) (hN : P N (nf f a N)) (hs : ∀ j, j < N → P (j + 1) (f j (nf f a j)) → P j (nf f a j)) : P 0 a := by
  have key : ∀ k, k ≤ N → P (N - k) (nf f a (N - k)) := by
    intro k
    induction k with
    | zero => intro _; exact hN
    | succ k ih =>
      intro hk
      have h := ih (by omega)
      have e : N - k = (N - (k + 1)) + 1 := by omega
      rw [e] at h
      exact hs _ (by omega) h
  have h := key N (Nat.le_refl N)
  rw [Nat.sub_self] at h
  exact h
end
section
/-! the words of the tables that calls and fields need, by their places -/
theorem tbP {w : Cond} (h : w ∈ k2_sels lw_privs) : w ∈ lw_tbl := List.mem_append_left _ h
theorem tb1 {w : Cond} (h : w ∈ tables_1_1) : w ∈ lw_tbl := List.mem_append_right _ (List.mem_append_left _ h)
theorem tb2 {w : Cond} (h : w ∈ tables_1_2) : w ∈ lw_tbl := List.mem_append_right _ (List.mem_append_right _ (List.mem_append_left _ h))
theorem tb3 {w : Cond} (h : w ∈ tables_1_3) : w ∈ lw_tbl := List.mem_append_right _ (List.mem_append_right _ (List.mem_append_right _ (List.mem_append_left _ h)))
theorem tb4 {w : Cond} (h : w ∈ tables_1_4) : w ∈ lw_tbl := List.mem_append_right _ (List.mem_append_right _ (List.mem_append_right _ (List.mem_append_right _ (List.mem_append_left _ h))))
theorem tb5 {w : Cond} (h : w ∈ tables_1_5) : w ∈ lw_tbl := List.mem_append_right _ (List.mem_append_right _ (List.mem_append_right _ (List.mem_append_right _ (List.mem_append_right _ (List.mem_append_left _ h)))))
theorem tb6 {w : Cond} (h : w ∈ tables_1_6) : w ∈ lw_tbl := List.mem_append_right _ (List.mem_append_right _ (List.mem_append_right _ (List.mem_append_right _ (List.mem_append_right _ (List.mem_append_right _ h)))))
theorem wc_L_8 : Cond.classLink RL 8 "HarborTides" ∈ TB := TB_in (tb1 (List.mem_of_getElem? (i := 31) rfl)) rfl
theorem wm_L_84 : Cond.methodLink RL 84 yX6_init ∈ TB := TB_in (tb1 (List.mem_of_getElem? (i := 33) rfl)) rfl
theorem wc_X6_7 : Cond.classLink RX6 7 "HarborTides$Water" ∈ TB := TB_in (tb1 (List.mem_of_getElem? (i := 39) rfl)) rfl
theorem wm_X6_9 : Cond.methodLink RX6 9 yX5_init ∈ TB := TB_in (tb1 (List.mem_of_getElem? (i := 41) rfl)) rfl
theorem wm_X5_21 : Cond.methodLink RX5 21 yJ7_fill_53178 ∈ TB := TB_in (tb1 (List.mem_of_getElem? (i := 45) rfl)) rfl
theorem wf_X5_9 : Cond.fieldLink RX5 9 "HarborTides$Water" "table" "[I" ∈ TB := TB_in (tb1 (List.mem_of_getElem? (i := 48) rfl)) rfl
theorem wf_X6_73 : Cond.fieldLink RX6 73 "HarborTides$Water" "table" "[I" ∈ TB := TB_in (tb1 (List.mem_of_getElem? (i := 49) rfl)) rfl
theorem wf_X5_15 : Cond.fieldLink RX5 15 "HarborTides$Water" "surges" "[I" ∈ TB := TB_in (tb1 (List.mem_of_getElem? (i := 50) rfl)) rfl
theorem wf_X6_77 : Cond.fieldLink RX6 77 "HarborTides$Water" "surges" "[I" ∈ TB := TB_in (tb1 (List.mem_of_getElem? (i := 51) rfl)) rfl
theorem wf_X5_18 : Cond.fieldLink RX5 18 "HarborTides$Water" "berths" "[I" ∈ TB := TB_in (tb1 (List.mem_of_getElem? (i := 52) rfl)) rfl
theorem wf_X6_93 : Cond.fieldLink RX6 93 "HarborTides$Water" "berths" "[I" ∈ TB := TB_in (tb1 (List.mem_of_getElem? (i := 53) rfl)) rfl
theorem wc_X6_16 : Cond.classLink RX6 16 "HarborTides$Rota" ∈ TB := TB_in (tb1 (List.mem_of_getElem? (i := 62) rfl)) rfl
theorem wm_X6_18 : Cond.methodLink RX6 18 yX3_init ∈ TB := TB_in (tb1 (List.mem_of_getElem? (i := 64) rfl)) rfl
theorem wf_X3_9 : Cond.fieldLink RX3 9 "HarborTides$Rota" "row" "[I" ∈ TB := TB_in (tb1 (List.mem_of_getElem? (i := 68) rfl)) rfl
theorem wf_X6_169 : Cond.fieldLink RX6 169 "HarborTides$Rota" "row" "[I" ∈ TB := TB_in (tb1 (List.mem_of_getElem? (i := 69) rfl)) rfl
theorem wf_X3_15 : Cond.fieldLink RX3 15 "HarborTides$Rota" "earnings" "[I" ∈ TB := TB_in (tb1 (List.mem_of_getElem? (i := 70) rfl)) rfl
theorem wf_X6_214 : Cond.fieldLink RX6 214 "HarborTides$Rota" "earnings" "[I" ∈ TB := TB_in (tb1 (List.mem_of_getElem? (i := 71) rfl)) rfl
theorem wc_X6_23 : Cond.classLink RX6 23 "HarborTides$Log" ∈ TB := TB_in (tb1 (List.mem_of_getElem? (i := 77) rfl)) rfl
theorem wc_X0_9 : Cond.classLink RX0 9 "java/util/ArrayList" ∈ TB := TB_in (tb1 (List.mem_of_getElem? (i := 83) rfl)) rfl
theorem wm_X0_11 : Cond.methodLink RX0 11 yJx4a65c_init_da8c8 ∈ TB := TB_in (tb1 (List.mem_of_getElem? (i := 85) rfl)) rfl
theorem wm_Jx4a65c_1 : Cond.methodLink RJx4a65c 1 yJxc12de_init_da8c8 ∈ TB := TB_in (tb1 (List.mem_of_getElem? (i := 88) rfl)) rfl
theorem wm_Jxc12de_1 : Cond.methodLink RJxc12de 1 yJxa1e45_init_da8c8 ∈ TB := TB_in (tb1 (List.mem_of_getElem? (i := 91) rfl)) rfl
theorem wf_Jx4a65c_39 : Cond.fieldLink RJx4a65c 39 "java/util/ArrayList" "DEFAULTCAPACITY_EMPTY_ELEMENTDATA" "[Ljava/lang/Object;" ∈ TB := TB_in (tb1 (List.mem_of_getElem? (i := 95) rfl)) rfl
theorem wf_Jx4a65c_9 : Cond.fieldLink RJx4a65c 9 "java/util/ArrayList" "elementData" "[Ljava/lang/Object;" ∈ TB := TB_in (tb1 (List.mem_of_getElem? (i := 97) rfl)) rfl
theorem wf_Jx4a65c_48 : Cond.fieldLink RJx4a65c 48 "java/util/ArrayList" "size" "I" ∈ TB := TB_in (tb1 (List.mem_of_getElem? (i := 98) rfl)) rfl
theorem wf_Jxc12de_7 : Cond.fieldLink RJxc12de 7 "java/util/AbstractList" "modCount" "I" ∈ TB := TB_in (tb1 (List.mem_of_getElem? (i := 99) rfl)) rfl
theorem wf_Jx4a65c_63 : Cond.fieldLink RJx4a65c 63 "java/util/ArrayList" "modCount" "I" ∈ TB := TB_in (tb1 (List.mem_of_getElem? (i := 100) rfl)) rfl
theorem wf_X0_12 : Cond.fieldLink RX0 12 "HarborTides$Log" "begun" "Ljava/util/ArrayList;" ∈ TB := TB_in (tb1 (List.mem_of_getElem? (i := 109) rfl)) rfl
theorem wc_X6_30 : Cond.classLink RX6 30 "java/util/ArrayList" ∈ TB := TB_in (tb1 (List.mem_of_getElem? (i := 113) rfl)) rfl
theorem wm_X6_32 : Cond.methodLink RX6 32 yJx4a65c_init_da8c8 ∈ TB := TB_in (tb1 (List.mem_of_getElem? (i := 114) rfl)) rfl
theorem wc_X6_37 : Cond.classLink RX6 37 "HarborTides$OrderQueue" ∈ TB := TB_in (tb1 (List.mem_of_getElem? (i := 115) rfl)) rfl
theorem wc_X2_9 : Cond.classLink RX2 9 "java/util/ArrayList" ∈ TB := TB_in (tb1 (List.mem_of_getElem? (i := 121) rfl)) rfl
theorem wm_X2_11 : Cond.methodLink RX2 11 yJx4a65c_init_da8c8 ∈ TB := TB_in (tb1 (List.mem_of_getElem? (i := 122) rfl)) rfl
theorem wf_X2_12 : Cond.fieldLink RX2 12 "HarborTides$OrderQueue" "row" "Ljava/util/ArrayList;" ∈ TB := TB_in (tb1 (List.mem_of_getElem? (i := 123) rfl)) rfl
theorem wf_X6_10 : Cond.fieldLink RX6 10 "HarborTides" "water" "LHarborTides$Water;" ∈ TB := TB_in (tb1 (List.mem_of_getElem? (i := 127) rfl)) rfl
theorem wf_X6_19 : Cond.fieldLink RX6 19 "HarborTides" "pilots" "LHarborTides$Rota;" ∈ TB := TB_in (tb1 (List.mem_of_getElem? (i := 128) rfl)) rfl
theorem wf_X6_26 : Cond.fieldLink RX6 26 "HarborTides" "log" "LHarborTides$Log;" ∈ TB := TB_in (tb1 (List.mem_of_getElem? (i := 129) rfl)) rfl
theorem wf_X6_33 : Cond.fieldLink RX6 33 "HarborTides" "ships" "Ljava/util/ArrayList;" ∈ TB := TB_in (tb1 (List.mem_of_getElem? (i := 130) rfl)) rfl
theorem wf_X6_40 : Cond.fieldLink RX6 40 "HarborTides" "orders" "LHarborTides$OrderQueue;" ∈ TB := TB_in (tb1 (List.mem_of_getElem? (i := 131) rfl)) rfl
theorem wf_X6_44 : Cond.fieldLink RX6 44 "HarborTides" "now" "I" ∈ TB := TB_in (tb1 (List.mem_of_getElem? (i := 132) rfl)) rfl
theorem wf_X6_48 : Cond.fieldLink RX6 48 "HarborTides" "tugSum" "I" ∈ TB := TB_in (tb1 (List.mem_of_getElem? (i := 133) rfl)) rfl
theorem wf_X6_51 : Cond.fieldLink RX6 51 "HarborTides" "portSum" "I" ∈ TB := TB_in (tb1 (List.mem_of_getElem? (i := 134) rfl)) rfl
theorem wm_L_140 : Cond.methodLink RL 140 yX6_tugs ∈ TB := TB_in (tb1 (List.mem_of_getElem? (i := 152) rfl)) rfl
theorem wm_X6_62 : Cond.methodLink RX6 62 yX0_count ∈ TB := TB_in (tb1 (List.mem_of_getElem? (i := 156) rfl)) rfl
theorem wm_X0_18 : Cond.methodLink RX0 18 yJx4a65c_size_8abf5 ∈ TB := TB_in (tb1 (List.mem_of_getElem? (i := 160) rfl)) rfl
theorem wm_X6_176 : Cond.methodLink RX6 176 yX0_readyTugs ∈ TB := TB_in (tb1 (List.mem_of_getElem? (i := 164) rfl)) rfl
theorem wm_X0_54 : Cond.methodLink RX0 54 yX0_tugsOnDuty ∈ TB := TB_in (tb1 (List.mem_of_getElem? (i := 168) rfl)) rfl
theorem wm_X0_42 : Cond.methodLink RX0 42 yJ9_min_7cf53 ∈ TB := TB_in (tb1 (List.mem_of_getElem? (i := 171) rfl)) rfl
theorem wm_X0_22 : Cond.methodLink RX0 22 yJx4a65c_get_915e3 ∈ TB := TB_in (tb1 (List.mem_of_getElem? (i := 174) rfl)) rfl
theorem wm_Jx4a65c_118 : Cond.methodLink RJx4a65c 118 yJ15_checkIndex_7cf53 ∈ TB := TB_in (tb1 (List.mem_of_getElem? (i := 178) rfl)) rfl
theorem wm_J15_105 : Cond.methodLink RJ15 105 yJ3_checkIndex_8e157 ∈ TB := TB_in (tb1 (List.mem_of_getElem? (i := 181) rfl)) rfl
theorem wm_Jx4a65c_123 : Cond.methodLink RJx4a65c 123 yJx4a65c_elementData_915e3 ∈ TB := TB_in (tb1 (List.mem_of_getElem? (i := 184) rfl)) rfl
theorem wc_X0_26 : Cond.classLink RX0 26 "HarborTides$Move" ∈ TB := TB_in (tb1 (List.mem_of_getElem? (i := 188) rfl)) rfl
theorem wm_L_144 : Cond.methodLink RL 144 yX6_moves ∈ TB := TB_in (tb1 (List.mem_of_getElem? (i := 189) rfl)) rfl
theorem wm_L_160 : Cond.methodLink RL 160 yX6_tugPay ∈ TB := TB_in (tb1 (List.mem_of_getElem? (i := 193) rfl)) rfl
theorem wm_L_164 : Cond.methodLink RL 164 yX6_port ∈ TB := TB_in (tb1 (List.mem_of_getElem? (i := 197) rfl)) rfl
theorem wm_L_88 : Cond.methodLink RL 88 yL_table ∈ TB := TB_in (tb1 (List.mem_of_getElem? (i := 201) rfl)) rfl
theorem wc_L_13 : Cond.classLink RL 13 "java/lang/IndexOutOfBoundsException" ∈ TB := TB_in (tb1 (List.mem_of_getElem? (i := 204) rfl)) rfl
theorem wc_L_15 : Cond.classLink RL 15 "java/lang/IllegalArgumentException" ∈ TB := TB_in (tb1 (List.mem_of_getElem? (i := 205) rfl)) rfl
theorem wc_L_17 : Cond.classLink RL 17 "java/lang/IllegalStateException" ∈ TB := TB_in (tb1 (List.mem_of_getElem? (i := 206) rfl)) rfl
theorem wm_L_7 : Cond.methodLink RL 7 yX6_table ∈ TB := TB_in (tb1 (List.mem_of_getElem? (i := 207) rfl)) rfl
theorem wm_X6_54 : Cond.methodLink RX6 54 yX6_checkPlace ∈ TB := TB_in (tb1 (List.mem_of_getElem? (i := 211) rfl)) rfl
theorem wc_X6_231 : Cond.classLink RX6 231 "java/lang/IndexOutOfBoundsException" ∈ TB := TB_in (tb1 (List.mem_of_getElem? (i := 214) rfl)) rfl
theorem wm_X6_58 : Cond.methodLink RX6 58 yX6_checkRange ∈ TB := TB_in (tb2 (List.mem_of_getElem? (i := 42) rfl)) rfl
theorem wc_X6_160 : Cond.classLink RX6 160 "java/lang/IllegalArgumentException" ∈ TB := TB_in (tb2 (List.mem_of_getElem? (i := 45) rfl)) rfl
theorem wc_X6_66 : Cond.classLink RX6 66 "java/lang/IllegalStateException" ∈ TB := TB_in (tb2 (List.mem_of_getElem? (i := 61) rfl)) rfl
theorem wm_L_98 : Cond.methodLink RL 98 yL_wind ∈ TB := TB_in (tb2 (List.mem_of_getElem? (i := 77) rfl)) rfl
theorem wm_L_19 : Cond.methodLink RL 19 yX6_wind ∈ TB := TB_in (tb2 (List.mem_of_getElem? (i := 80) rfl)) rfl
theorem wm_X6_80 : Cond.methodLink RX6 80 yX5_tellSurge ∈ TB := TB_in (tb2 (List.mem_of_getElem? (i := 84) rfl)) rfl
theorem wm_X5_27 : Cond.methodLink RX5 27 yJ9_min_7cf53 ∈ TB := TB_in (tb2 (List.mem_of_getElem? (i := 88) rfl)) rfl
theorem wm_L_102 : Cond.methodLink RL 102 yL_depth ∈ TB := TB_in (tb2 (List.mem_of_getElem? (i := 89) rfl)) rfl
theorem wm_L_23 : Cond.methodLink RL 23 yX6_depth ∈ TB := TB_in (tb2 (List.mem_of_getElem? (i := 92) rfl)) rfl
theorem wm_X6_83 : Cond.methodLink RX6 83 yX5_depthAt ∈ TB := TB_in (tb2 (List.mem_of_getElem? (i := 96) rfl)) rfl
theorem wm_L_106 : Cond.methodLink RL 106 yL_berth ∈ TB := TB_in (tb2 (List.mem_of_getElem? (i := 100) rfl)) rfl
theorem wm_L_27 : Cond.methodLink RL 27 yX6_berth ∈ TB := TB_in (tb2 (List.mem_of_getElem? (i := 103) rfl)) rfl
theorem wm_X6_87 : Cond.methodLink RX6 87 yX0_hasMoveAt ∈ TB := TB_in (tb2 (List.mem_of_getElem? (i := 107) rfl)) rfl
theorem wm_L_109 : Cond.methodLink RL 109 yL_ship ∈ TB := TB_in (tb2 (List.mem_of_getElem? (i := 112) rfl)) rfl
theorem wm_L_30 : Cond.methodLink RL 30 yX6_ship ∈ TB := TB_in (tb2 (List.mem_of_getElem? (i := 115) rfl)) rfl
theorem wm_X6_96 : Cond.methodLink RX6 96 yJx4a65c_size_8abf5 ∈ TB := TB_in (tb2 (List.mem_of_getElem? (i := 119) rfl)) rfl
theorem wc_X6_101 : Cond.classLink RX6 101 "HarborTides$Ship" ∈ TB := TB_in (tb2 (List.mem_of_getElem? (i := 121) rfl)) rfl
theorem wm_X6_103 : Cond.methodLink RX6 103 yX4_init ∈ TB := TB_in (tb2 (List.mem_of_getElem? (i := 123) rfl)) rfl
theorem wf_X4_30 : Cond.fieldLink RX4 30 "HarborTides$Ship" "number" "I" ∈ TB := TB_in (tb2 (List.mem_of_getElem? (i := 127) rfl)) rfl
theorem wf_X6_192 : Cond.fieldLink RX6 192 "HarborTides$Ship" "number" "I" ∈ TB := TB_in (tb2 (List.mem_of_getElem? (i := 128) rfl)) rfl
theorem wf_X4_33 : Cond.fieldLink RX4 33 "HarborTides$Ship" "size" "I" ∈ TB := TB_in (tb2 (List.mem_of_getElem? (i := 129) rfl)) rfl
theorem wf_X6_225 : Cond.fieldLink RX6 225 "HarborTides$Ship" "size" "I" ∈ TB := TB_in (tb2 (List.mem_of_getElem? (i := 130) rfl)) rfl
theorem wf_X4_36 : Cond.fieldLink RX4 36 "HarborTides$Ship" "draught" "I" ∈ TB := TB_in (tb2 (List.mem_of_getElem? (i := 131) rfl)) rfl
theorem wf_X5_33 : Cond.fieldLink RX5 33 "HarborTides$Ship" "draught" "I" ∈ TB := TB_in (tb2 (List.mem_of_getElem? (i := 132) rfl)) rfl
theorem wf_X4_39 : Cond.fieldLink RX4 39 "HarborTides$Ship" "contract" "I" ∈ TB := TB_in (tb2 (List.mem_of_getElem? (i := 133) rfl)) rfl
theorem wf_X4_42 : Cond.fieldLink RX4 42 "HarborTides$Ship" "berth" "I" ∈ TB := TB_in (tb2 (List.mem_of_getElem? (i := 134) rfl)) rfl
theorem wf_X5_43 : Cond.fieldLink RX5 43 "HarborTides$Ship" "berth" "I" ∈ TB := TB_in (tb2 (List.mem_of_getElem? (i := 135) rfl)) rfl
theorem wf_X0_36 : Cond.fieldLink RX0 36 "HarborTides$Ship" "berth" "I" ∈ TB := TB_in (tb2 (List.mem_of_getElem? (i := 136) rfl)) rfl
theorem wf_X6_202 : Cond.fieldLink RX6 202 "HarborTides$Ship" "berth" "I" ∈ TB := TB_in (tb2 (List.mem_of_getElem? (i := 137) rfl)) rfl
theorem wf_X4_9 : Cond.fieldLink RX4 9 "HarborTides$Ship" "state" "I" ∈ TB := TB_in (tb2 (List.mem_of_getElem? (i := 138) rfl)) rfl
theorem wf_X6_138 : Cond.fieldLink RX6 138 "HarborTides$Ship" "state" "I" ∈ TB := TB_in (tb2 (List.mem_of_getElem? (i := 139) rfl)) rfl
theorem wf_X4_15 : Cond.fieldLink RX4 15 "HarborTides$Ship" "moveHour" "I" ∈ TB := TB_in (tb2 (List.mem_of_getElem? (i := 140) rfl)) rfl
theorem wf_X4_18 : Cond.fieldLink RX4 18 "HarborTides$Ship" "orderHour" "I" ∈ TB := TB_in (tb2 (List.mem_of_getElem? (i := 141) rfl)) rfl
theorem wf_X2_43 : Cond.fieldLink RX2 43 "HarborTides$Ship" "orderHour" "I" ∈ TB := TB_in (tb2 (List.mem_of_getElem? (i := 142) rfl)) rfl
theorem wf_X6_125 : Cond.fieldLink RX6 125 "HarborTides$Ship" "orderHour" "I" ∈ TB := TB_in (tb2 (List.mem_of_getElem? (i := 143) rfl)) rfl
theorem wf_X4_21 : Cond.fieldLink RX4 21 "HarborTides$Ship" "paid" "I" ∈ TB := TB_in (tb2 (List.mem_of_getElem? (i := 144) rfl)) rfl
theorem wf_X6_211 : Cond.fieldLink RX6 211 "HarborTides$Ship" "paid" "I" ∈ TB := TB_in (tb2 (List.mem_of_getElem? (i := 145) rfl)) rfl
theorem wf_X4_24 : Cond.fieldLink RX4 24 "HarborTides$Ship" "tidesLost" "I" ∈ TB := TB_in (tb2 (List.mem_of_getElem? (i := 146) rfl)) rfl
theorem wf_X6_217 : Cond.fieldLink RX6 217 "HarborTides$Ship" "tidesLost" "I" ∈ TB := TB_in (tb2 (List.mem_of_getElem? (i := 147) rfl)) rfl
theorem wf_X4_27 : Cond.fieldLink RX4 27 "HarborTides$Ship" "openClaims" "I" ∈ TB := TB_in (tb2 (List.mem_of_getElem? (i := 148) rfl)) rfl
theorem wf_X6_220 : Cond.fieldLink RX6 220 "HarborTides$Ship" "openClaims" "I" ∈ TB := TB_in (tb2 (List.mem_of_getElem? (i := 149) rfl)) rfl
theorem wm_X6_106 : Cond.methodLink RX6 106 yJx4a65c_add_9ea2d ∈ TB := TB_in (tb2 (List.mem_of_getElem? (i := 173) rfl)) rfl
theorem wm_Jx4a65c_131 : Cond.methodLink RJx4a65c 131 yJx4a65c_add_72be8 ∈ TB := TB_in (tb2 (List.mem_of_getElem? (i := 177) rfl)) rfl
theorem wm_Jx4a65c_129 : Cond.methodLink RJx4a65c 129 yJx4a65c_grow_d5877 ∈ TB := TB_in (tb2 (List.mem_of_getElem? (i := 181) rfl)) rfl
theorem wm_Jx4a65c_69 : Cond.methodLink RJx4a65c 69 yJx4a65c_grow_92f84 ∈ TB := TB_in (tb2 (List.mem_of_getElem? (i := 185) rfl)) rfl
theorem wm_Jx4a65c_73 : Cond.methodLink RJx4a65c 73 yJ8_newLength_cabcc ∈ TB := TB_in (tb2 (List.mem_of_getElem? (i := 189) rfl)) rfl
theorem wm_J8_194 : Cond.methodLink RJ8 194 yJ9_max_7cf53 ∈ TB := TB_in (tb2 (List.mem_of_getElem? (i := 192) rfl)) rfl
theorem wm_J8_201 : Cond.methodLink RJ8 201 yJ8_hugeLength_7cf53 ∈ TB := TB_in (tb2 (List.mem_of_getElem? (i := 196) rfl)) rfl
theorem wm_Jx4a65c_66 : Cond.methodLink RJx4a65c 66 yJ7_copyOf_1904c ∈ TB := TB_in (tb2 (List.mem_of_getElem? (i := 199) rfl)) rfl
theorem wm_J7_300 : Cond.methodLink RJ7 300 yJ7_copyOf_6403c ∈ TB := TB_in (tb2 (List.mem_of_getElem? (i := 220) rfl)) rfl
theorem wc_J7_110 : Cond.classLink RJ7 110 "[Ljava/lang/Object;" ∈ TB := TB_in (tb2 (List.mem_of_getElem? (i := 223) rfl)) rfl
theorem wc_J7_2 : Cond.classLink RJ7 2 "java/lang/Object" ∈ TB := TB_in (tb2 (List.mem_of_getElem? (i := 225) rfl)) rfl
theorem wm_J7_304 : Cond.methodLink RJ7 304 yJ9_min_7cf53 ∈ TB := TB_in (tb2 (List.mem_of_getElem? (i := 226) rfl)) rfl
theorem wm_Jx4a65c_79 : Cond.methodLink RJx4a65c 79 yJ9_max_7cf53 ∈ TB := TB_in (tb2 (List.mem_of_getElem? (i := 230) rfl)) rfl
theorem wc_Jx4a65c_7 : Cond.classLink RJx4a65c 7 "java/lang/Object" ∈ TB := TB_in (tb2 (List.mem_of_getElem? (i := 231) rfl)) rfl
theorem wm_L_113 : Cond.methodLink RL 113 yL_order ∈ TB := TB_in (tb2 (List.mem_of_getElem? (i := 232) rfl)) rfl
theorem wm_L_34 : Cond.methodLink RL 34 yX6_order ∈ TB := TB_in (tb2 (List.mem_of_getElem? (i := 235) rfl)) rfl
theorem wm_X6_110 : Cond.methodLink RX6 110 yX6_shipAt ∈ TB := TB_in (tb2 (List.mem_of_getElem? (i := 239) rfl)) rfl
theorem wm_X6_238 : Cond.methodLink RX6 238 yJx4a65c_get_915e3 ∈ TB := TB_in (tb3 (List.mem_of_getElem? (i := 3) rfl)) rfl
theorem wm_X6_114 : Cond.methodLink RX6 114 yX4_canMove ∈ TB := TB_in (tb3 (List.mem_of_getElem? (i := 4) rfl)) rfl
theorem wm_X6_120 : Cond.methodLink RX6 120 yX4_hasOrder ∈ TB := TB_in (tb3 (List.mem_of_getElem? (i := 9) rfl)) rfl
theorem wm_X6_128 : Cond.methodLink RX6 128 yX2_insert ∈ TB := TB_in (tb3 (List.mem_of_getElem? (i := 14) rfl)) rfl
theorem wm_X2_18 : Cond.methodLink RX2 18 yJx4a65c_size_8abf5 ∈ TB := TB_in (tb3 (List.mem_of_getElem? (i := 18) rfl)) rfl
theorem wm_X2_22 : Cond.methodLink RX2 22 yJx4a65c_get_915e3 ∈ TB := TB_in (tb3 (List.mem_of_getElem? (i := 19) rfl)) rfl
theorem wc_X2_26 : Cond.classLink RX2 26 "HarborTides$Ship" ∈ TB := TB_in (tb3 (List.mem_of_getElem? (i := 20) rfl)) rfl
theorem wm_X2_28 : Cond.methodLink RX2 28 yX4_isAheadOf ∈ TB := TB_in (tb3 (List.mem_of_getElem? (i := 21) rfl)) rfl
theorem wm_X2_32 : Cond.methodLink RX2 32 yJx4a65c_add_7a177 ∈ TB := TB_in (tb3 (List.mem_of_getElem? (i := 25) rfl)) rfl
theorem wm_Jx4a65c_135 : Cond.methodLink RJx4a65c 135 yJx4a65c_rangeCheckForAdd_d00df ∈ TB := TB_in (tb3 (List.mem_of_getElem? (i := 29) rfl)) rfl
theorem wc_Jx4a65c_187 : Cond.classLink RJx4a65c 187 "java/lang/IndexOutOfBoundsException" ∈ TB := TB_in (tb3 (List.mem_of_getElem? (i := 33) rfl)) rfl
theorem wm_Jx4a65c_198 : Cond.methodLink RJx4a65c 198 yJx4a65c_outOfBoundsMsg_b52d3 ∈ TB := TB_in (tb3 (List.mem_of_getElem? (i := 34) rfl)) rfl
theorem wc_Jx4a65c_20 : Cond.classLink RJx4a65c 20 "java/lang/StringBuilder" ∈ TB := TB_in (tb3 (List.mem_of_getElem? (i := 38) rfl)) rfl
theorem wm_Jx4a65c_22 : Cond.methodLink RJx4a65c 22 yJ4_init_da8c8 ∈ TB := TB_in (tb3 (List.mem_of_getElem? (i := 40) rfl)) rfl
theorem wm_J4_1 : Cond.methodLink RJ4 1 yJ5_init_d00df ∈ TB := TB_in (tb3 (List.mem_of_getElem? (i := 43) rfl)) rfl
theorem wf_J5_18 : Cond.fieldLink RJ5 18 "java/lang/String" "COMPACT_STRINGS" "Z" ∈ TB := TB_in (tb3 (List.mem_of_getElem? (i := 47) rfl)) rfl
theorem wm_J5_26 : Cond.methodLink RJ5 26 yJ2_newBytesFor_77867 ∈ TB := TB_in (tb3 (List.mem_of_getElem? (i := 49) rfl)) rfl
theorem wm_J2_11 : Cond.methodLink RJ2 11 yJ2_newBytesLength_0f7a4 ∈ TB := TB_in (tb3 (List.mem_of_getElem? (i := 52) rfl)) rfl
theorem wf_J5_15 : Cond.fieldLink RJ5 15 "java/lang/AbstractStringBuilder" "value" "[B" ∈ TB := TB_in (tb3 (List.mem_of_getElem? (i := 56) rfl)) rfl
theorem wf_J5_22 : Cond.fieldLink RJ5 22 "java/lang/AbstractStringBuilder" "coder" "B" ∈ TB := TB_in (tb3 (List.mem_of_getElem? (i := 57) rfl)) rfl
theorem wf_J0_1048 : Cond.fieldLink RJ0 1048 "java/lang/AbstractStringBuilder" "maybeLatin1" "Z" ∈ TB := TB_in (tb3 (List.mem_of_getElem? (i := 58) rfl)) rfl
theorem wf_J5_79 : Cond.fieldLink RJ5 79 "java/lang/AbstractStringBuilder" "count" "I" ∈ TB := TB_in (tb3 (List.mem_of_getElem? (i := 59) rfl)) rfl
theorem wm_Jx4a65c_25 : Cond.methodLink RJx4a65c 25 yJ4_append_15ec4 ∈ TB := TB_in (tb3 (List.mem_of_getElem? (i := 70) rfl)) rfl
theorem wm_J4_29 : Cond.methodLink RJ4 29 yJ5_append_cf1ce ∈ TB := TB_in (tb3 (List.mem_of_getElem? (i := 74) rfl)) rfl
theorem wm_J5_204 : Cond.methodLink RJ5 204 yJ5_appendNull_278bc ∈ TB := TB_in (tb3 (List.mem_of_getElem? (i := 77) rfl)) rfl
theorem wm_J5_100 : Cond.methodLink RJ5 100 yJ5_ensureCapacityInternal_d00df ∈ TB := TB_in (tb3 (List.mem_of_getElem? (i := 81) rfl)) rfl
theorem wm_J5_104 : Cond.methodLink RJ5 104 yJ5_newCapacity_0f7a4 ∈ TB := TB_in (tb3 (List.mem_of_getElem? (i := 85) rfl)) rfl
theorem wm_J5_114 : Cond.methodLink RJ5 114 yJ8_newLength_cabcc ∈ TB := TB_in (tb3 (List.mem_of_getElem? (i := 89) rfl)) rfl
theorem wm_J5_108 : Cond.methodLink RJ5 108 yJ7_copyOf_9075b ∈ TB := TB_in (tb3 (List.mem_of_getElem? (i := 91) rfl)) rfl
theorem wc_J7_311 : Cond.classLink RJ7 311 "[B" ∈ TB := TB_in (tb3 (List.mem_of_getElem? (i := 100) rfl)) rfl
theorem wm_J5_83 : Cond.methodLink RJ5 83 yJ5_isLatin1_aae02 ∈ TB := TB_in (tb3 (List.mem_of_getElem? (i := 101) rfl)) rfl
theorem wm_J5_226 : Cond.methodLink RJ5 226 yJ2_putCharsAt_cd4e5 ∈ TB := TB_in (tb3 (List.mem_of_getElem? (i := 106) rfl)) rfl
theorem wm_J2_96 : Cond.methodLink RJ2 96 yJ2_checkBoundsBeginEnd_d044e ∈ TB := TB_in (tb3 (List.mem_of_getElem? (i := 109) rfl)) rfl
theorem wm_J2_48 : Cond.methodLink RJ2 48 yJ2_length_9d52b ∈ TB := TB_in (tb3 (List.mem_of_getElem? (i := 112) rfl)) rfl
theorem wm_J2_241 : Cond.methodLink RJ2 241 yJ0_checkBoundsBeginEnd_23922 ∈ TB := TB_in (tb3 (List.mem_of_getElem? (i := 115) rfl)) rfl
theorem wf_J0_1053 : Cond.fieldLink RJ0 1053 "jdk/internal/util/Preconditions" "SIOOBE_FORMATTER" "Ljava/util/function/BiFunction;" ∈ TB := TB_in (tb3 (List.mem_of_getElem? (i := 118) rfl)) rfl
theorem wm_J0_1062 : Cond.methodLink RJ0 1062 yJ3_checkFromToIndex_8c36e ∈ TB := TB_in (tb3 (List.mem_of_getElem? (i := 120) rfl)) rfl
theorem wm_J2_111 : Cond.methodLink RJ2 111 yJ2_putChar_b72d1 ∈ TB := TB_in (tb3 (List.mem_of_getElem? (i := 123) rfl)) rfl
theorem wf_J2_44 : Cond.fieldLink RJ2 44 "java/lang/StringUTF16" "$assertionsDisabled" "Z" ∈ TB := TB_in (tb3 (List.mem_of_getElem? (i := 126) rfl)) rfl
theorem wf_J2_59 : Cond.fieldLink RJ2 59 "java/lang/StringUTF16" "HI_BYTE_SHIFT" "I" ∈ TB := TB_in (tb3 (List.mem_of_getElem? (i := 128) rfl)) rfl
theorem wf_J2_63 : Cond.fieldLink RJ2 63 "java/lang/StringUTF16" "LO_BYTE_SHIFT" "I" ∈ TB := TB_in (tb3 (List.mem_of_getElem? (i := 130) rfl)) rfl
theorem wm_J5_32 : Cond.methodLink RJ5 32 yJ0_length_8abf5 ∈ TB := TB_in (tb3 (List.mem_of_getElem? (i := 132) rfl)) rfl
theorem wm_J0_335 : Cond.methodLink RJ0 335 yJ0_coder_7d493 ∈ TB := TB_in (tb3 (List.mem_of_getElem? (i := 136) rfl)) rfl
theorem wf_J0_38 : Cond.fieldLink RJ0 38 "java/lang/String" "COMPACT_STRINGS" "Z" ∈ TB := TB_in (tb3 (List.mem_of_getElem? (i := 140) rfl)) rfl
theorem wm_J5_208 : Cond.methodLink RJ5 208 yJ5_putStringAt_47b60 ∈ TB := TB_in (tb3 (List.mem_of_getElem? (i := 141) rfl)) rfl
theorem wm_J5_397 : Cond.methodLink RJ5 397 yJ5_inflateIfNeededFor_a7421 ∈ TB := TB_in (tb3 (List.mem_of_getElem? (i := 145) rfl)) rfl
theorem wm_J5_40 : Cond.methodLink RJ5 40 yJ0_coder_7d493 ∈ TB := TB_in (tb3 (List.mem_of_getElem? (i := 149) rfl)) rfl
theorem wm_J5_195 : Cond.methodLink RJ5 195 yJ5_inflate_da8c8 ∈ TB := TB_in (tb3 (List.mem_of_getElem? (i := 150) rfl)) rfl
theorem wm_J5_125 : Cond.methodLink RJ5 125 yJ1_inflate_0e8fd ∈ TB := TB_in (tb3 (List.mem_of_getElem? (i := 154) rfl)) rfl
theorem wm_J1_240 : Cond.methodLink RJ1 240 yJ2_inflate_0e8fd ∈ TB := TB_in (tb3 (List.mem_of_getElem? (i := 157) rfl)) rfl
theorem wm_J2_173 : Cond.methodLink RJ2 173 yJ2_checkBoundsOffCount_d044e ∈ TB := TB_in (tb3 (List.mem_of_getElem? (i := 160) rfl)) rfl
theorem wm_J2_419 : Cond.methodLink RJ2 419 yJ0_checkBoundsOffCount_cabcc ∈ TB := TB_in (tb3 (List.mem_of_getElem? (i := 163) rfl)) rfl
theorem wm_J0_1065 : Cond.methodLink RJ0 1065 yJ3_checkFromIndexSize_8c36e ∈ TB := TB_in (tb3 (List.mem_of_getElem? (i := 166) rfl)) rfl
theorem wm_J5_399 : Cond.methodLink RJ5 399 yJ0_getBytes_840e7 ∈ TB := TB_in (tb3 (List.mem_of_getElem? (i := 169) rfl)) rfl
theorem wm_J0_106 : Cond.methodLink RJ0 106 yJ1_inflate_0e8fd ∈ TB := TB_in (tb3 (List.mem_of_getElem? (i := 174) rfl)) rfl
theorem wm_Jx4a65c_29 : Cond.methodLink RJx4a65c 29 yJ4_append_bf812 ∈ TB := TB_in (tb3 (List.mem_of_getElem? (i := 175) rfl)) rfl
theorem wm_J4_53 : Cond.methodLink RJ4 53 yJ5_append_c97b9 ∈ TB := TB_in (tb3 (List.mem_of_getElem? (i := 179) rfl)) rfl
theorem wm_J5_245 : Cond.methodLink RJ5 245 yJ6_stringSize_0f7a4 ∈ TB := TB_in (tb3 (List.mem_of_getElem? (i := 182) rfl)) rfl
theorem wm_J5_248 : Cond.methodLink RJ5 248 yJ6_getChars_ba4f3 ∈ TB := TB_in (tb3 (List.mem_of_getElem? (i := 185) rfl)) rfl
theorem wf_J6_83 : Cond.fieldLink RJ6 83 "java/lang/Integer" "DigitOnes" "[B" ∈ TB := TB_in (tb3 (List.mem_of_getElem? (i := 188) rfl)) rfl
theorem wf_J6_87 : Cond.fieldLink RJ6 87 "java/lang/Integer" "DigitTens" "[B" ∈ TB := TB_in (tb3 (List.mem_of_getElem? (i := 190) rfl)) rfl
theorem wm_J5_251 : Cond.methodLink RJ5 251 yJ2_getChars_46870 ∈ TB := TB_in (tb3 (List.mem_of_getElem? (i := 192) rfl)) rfl
theorem wm_J2_393 : Cond.methodLink RJ2 393 yJ2_getChars_ba4f3 ∈ TB := TB_in (tb3 (List.mem_of_getElem? (i := 195) rfl)) rfl
theorem wf_J2_403 : Cond.fieldLink RJ2 403 "java/lang/Integer" "DigitOnes" "[B" ∈ TB := TB_in (tb3 (List.mem_of_getElem? (i := 198) rfl)) rfl
theorem wf_J2_407 : Cond.fieldLink RJ2 407 "java/lang/Integer" "DigitTens" "[B" ∈ TB := TB_in (tb3 (List.mem_of_getElem? (i := 199) rfl)) rfl
theorem wm_Jx4a65c_32 : Cond.methodLink RJx4a65c 32 yJ4_toString_0e30d ∈ TB := TB_in (tb3 (List.mem_of_getElem? (i := 201) rfl)) rfl
theorem wc_J4_18 : Cond.classLink RJ4 18 "java/lang/String" ∈ TB := TB_in (tb3 (List.mem_of_getElem? (i := 205) rfl)) rfl
theorem wm_J4_137 : Cond.methodLink RJ4 137 yJ0_init_81219 ∈ TB := TB_in (tb3 (List.mem_of_getElem? (i := 207) rfl)) rfl
theorem wm_J0_489 : Cond.methodLink RJ0 489 yJ0_init_db425 ∈ TB := TB_in (tb3 (List.mem_of_getElem? (i := 210) rfl)) rfl
theorem wm_J0_552 : Cond.methodLink RJ0 552 yJ5_getValue_6d5f1 ∈ TB := TB_in (tb3 (List.mem_of_getElem? (i := 214) rfl)) rfl
theorem wm_J0_549 : Cond.methodLink RJ0 549 yJ5_length_8abf5 ∈ TB := TB_in (tb3 (List.mem_of_getElem? (i := 219) rfl)) rfl
theorem wm_J4_343 : Cond.methodLink RJ4 343 yJ5_length_8abf5 ∈ TB := TB_in (tb3 (List.mem_of_getElem? (i := 225) rfl)) rfl
theorem wm_J0_1047 : Cond.methodLink RJ0 1047 yJ5_isLatin1_aae02 ∈ TB := TB_in (tb3 (List.mem_of_getElem? (i := 227) rfl)) rfl
theorem wm_J0_54 : Cond.methodLink RJ0 54 yJ7_copyOfRange_39247 ∈ TB := TB_in (tb3 (List.mem_of_getElem? (i := 228) rfl)) rfl
theorem wm_J7_339 : Cond.methodLink RJ7 339 yJ7_copyOfRangeByte_39247 ∈ TB := TB_in (tb3 (List.mem_of_getElem? (i := 231) rfl)) rfl
theorem wm_J7_343 : Cond.methodLink RJ7 343 yJ7_checkLength_df160 ∈ TB := TB_in (tb3 (List.mem_of_getElem? (i := 234) rfl)) rfl
theorem wc_J7_43 : Cond.classLink RJ7 43 "java/lang/IllegalArgumentException" ∈ TB := TB_in (tb3 (List.mem_of_getElem? (i := 237) rfl)) rfl
theorem wc_J7_45 : Cond.classLink RJ7 45 "java/lang/StringBuilder" ∈ TB := TB_in (tb3 (List.mem_of_getElem? (i := 238) rfl)) rfl
theorem wm_J7_47 : Cond.methodLink RJ7 47 yJ4_init_da8c8 ∈ TB := TB_in (tb3 (List.mem_of_getElem? (i := 239) rfl)) rfl
theorem wm_J7_54 : Cond.methodLink RJ7 54 yJ4_append_bf812 ∈ TB := TB_in (tb4 (List.mem_of_getElem? (i := 0) rfl)) rfl
theorem wm_J7_50 : Cond.methodLink RJ7 50 yJ4_append_15ec4 ∈ TB := TB_in (tb4 (List.mem_of_getElem? (i := 2) rfl)) rfl
theorem wm_J7_61 : Cond.methodLink RJ7 61 yJ4_toString_0e30d ∈ TB := TB_in (tb4 (List.mem_of_getElem? (i := 3) rfl)) rfl
theorem wm_J0_1051 : Cond.methodLink RJ0 1051 yJ2_compress_39247 ∈ TB := TB_in (tb4 (List.mem_of_getElem? (i := 5) rfl)) rfl
theorem wm_J2_123 : Cond.methodLink RJ2 123 yJ2_compress_5af95 ∈ TB := TB_in (tb4 (List.mem_of_getElem? (i := 8) rfl)) rfl
theorem wm_J2_71 : Cond.methodLink RJ2 71 yJ2_getChar_3b067 ∈ TB := TB_in (tb4 (List.mem_of_getElem? (i := 11) rfl)) rfl
theorem wm_J2_126 : Cond.methodLink RJ2 126 yJ7_copyOfRange_39247 ∈ TB := TB_in (tb4 (List.mem_of_getElem? (i := 14) rfl)) rfl
theorem wm_J0_47 : Cond.methodLink RJ0 47 yJ2_coderFromArrayLen_85cad ∈ TB := TB_in (tb4 (List.mem_of_getElem? (i := 15) rfl)) rfl
theorem wf_J0_9 : Cond.fieldLink RJ0 9 "java/lang/String" "value" "[B" ∈ TB := TB_in (tb4 (List.mem_of_getElem? (i := 18) rfl)) rfl
theorem wf_J0_15 : Cond.fieldLink RJ0 15 "java/lang/String" "coder" "B" ∈ TB := TB_in (tb4 (List.mem_of_getElem? (i := 19) rfl)) rfl
theorem wm_X6_132 : Cond.methodLink RX6 132 yX2_count ∈ TB := TB_in (tb4 (List.mem_of_getElem? (i := 31) rfl)) rfl
theorem wm_L_116 : Cond.methodLink RL 116 yL_cancel ∈ TB := TB_in (tb4 (List.mem_of_getElem? (i := 35) rfl)) rfl
theorem wm_L_37 : Cond.methodLink RL 37 yX6_cancel ∈ TB := TB_in (tb4 (List.mem_of_getElem? (i := 38) rfl)) rfl
theorem wm_X6_135 : Cond.methodLink RX6 135 yX2_drop ∈ TB := TB_in (tb4 (List.mem_of_getElem? (i := 43) rfl)) rfl
theorem wm_X2_36 : Cond.methodLink RX2 36 yX2_placeOf ∈ TB := TB_in (tb4 (List.mem_of_getElem? (i := 47) rfl)) rfl
theorem wm_X2_40 : Cond.methodLink RX2 40 yJx4a65c_remove_915e3 ∈ TB := TB_in (tb4 (List.mem_of_getElem? (i := 51) rfl)) rfl
theorem wm_Jx4a65c_144 : Cond.methodLink RJx4a65c 144 yJx4a65c_fastRemove_b59b0 ∈ TB := TB_in (tb4 (List.mem_of_getElem? (i := 55) rfl)) rfl
theorem wm_L_119 : Cond.methodLink RL 119 yL_hasWater ∈ TB := TB_in (tb4 (List.mem_of_getElem? (i := 59) rfl)) rfl
theorem wm_L_40 : Cond.methodLink RL 40 yX6_hasWater ∈ TB := TB_in (tb4 (List.mem_of_getElem? (i := 62) rfl)) rfl
theorem wm_X6_141 : Cond.methodLink RX6 141 yX5_carries ∈ TB := TB_in (tb4 (List.mem_of_getElem? (i := 66) rfl)) rfl
theorem wm_X5_39 : Cond.methodLink RX5 39 yX5_depthAt ∈ TB := TB_in (tb4 (List.mem_of_getElem? (i := 70) rfl)) rfl
theorem wm_L_122 : Cond.methodLink RL 122 yL_state ∈ TB := TB_in (tb4 (List.mem_of_getElem? (i := 71) rfl)) rfl
theorem wm_L_44 : Cond.methodLink RL 44 yX6_state ∈ TB := TB_in (tb4 (List.mem_of_getElem? (i := 74) rfl)) rfl
theorem wm_L_125 : Cond.methodLink RL 125 yL_queue ∈ TB := TB_in (tb4 (List.mem_of_getElem? (i := 78) rfl)) rfl
theorem wm_L_47 : Cond.methodLink RL 47 yX6_queue ∈ TB := TB_in (tb4 (List.mem_of_getElem? (i := 81) rfl)) rfl
theorem wm_X6_145 : Cond.methodLink RX6 145 yX2_placeOf ∈ TB := TB_in (tb4 (List.mem_of_getElem? (i := 85) rfl)) rfl
theorem wm_L_128 : Cond.methodLink RL 128 yL_pass ∈ TB := TB_in (tb4 (List.mem_of_getElem? (i := 86) rfl)) rfl
theorem wm_L_50 : Cond.methodLink RL 50 yX6_pass ∈ TB := TB_in (tb4 (List.mem_of_getElem? (i := 89) rfl)) rfl
theorem wm_X6_151 : Cond.methodLink RX6 151 yX6_endMoves ∈ TB := TB_in (tb4 (List.mem_of_getElem? (i := 94) rfl)) rfl
theorem wm_X6_242 : Cond.methodLink RX6 242 yX4_endMove ∈ TB := TB_in (tb4 (List.mem_of_getElem? (i := 98) rfl)) rfl
theorem wm_X4_45 : Cond.methodLink RX4 45 yX4_canMove ∈ TB := TB_in (tb4 (List.mem_of_getElem? (i := 102) rfl)) rfl
theorem wm_X6_154 : Cond.methodLink RX6 154 yX6_takeBerthDues ∈ TB := TB_in (tb4 (List.mem_of_getElem? (i := 103) rfl)) rfl
theorem wm_X6_227 : Cond.methodLink RX6 227 yX6_payPort ∈ TB := TB_in (tb4 (List.mem_of_getElem? (i := 107) rfl)) rfl
theorem wm_X6_157 : Cond.methodLink RX6 157 yX6_lookAtOrders ∈ TB := TB_in (tb4 (List.mem_of_getElem? (i := 111) rfl)) rfl
theorem wm_X6_246 : Cond.methodLink RX6 246 yX2_at ∈ TB := TB_in (tb4 (List.mem_of_getElem? (i := 115) rfl)) rfl
theorem wm_X6_248 : Cond.methodLink RX6 248 yX6_settles ∈ TB := TB_in (tb4 (List.mem_of_getElem? (i := 119) rfl)) rfl
theorem wm_X6_252 : Cond.methodLink RX6 252 yX6_loseTide ∈ TB := TB_in (tb4 (List.mem_of_getElem? (i := 123) rfl)) rfl
theorem wm_X6_259 : Cond.methodLink RX6 259 yX6_payPilot ∈ TB := TB_in (tb4 (List.mem_of_getElem? (i := 127) rfl)) rfl
theorem wm_X6_255 : Cond.methodLink RX6 255 yX6_begins ∈ TB := TB_in (tb4 (List.mem_of_getElem? (i := 131) rfl)) rfl
theorem wm_X6_262 : Cond.methodLink RX6 262 yX6_berthIsFreeNow ∈ TB := TB_in (tb4 (List.mem_of_getElem? (i := 135) rfl)) rfl
theorem wm_X6_265 : Cond.methodLink RX6 265 yX6_firstReadyPilot ∈ TB := TB_in (tb4 (List.mem_of_getElem? (i := 139) rfl)) rfl
theorem wm_X6_172 : Cond.methodLink RX6 172 yX0_pilotIsReady ∈ TB := TB_in (tb4 (List.mem_of_getElem? (i := 143) rfl)) rfl
theorem wm_X6_268 : Cond.methodLink RX6 268 yX6_lowestOf ∈ TB := TB_in (tb4 (List.mem_of_getElem? (i := 147) rfl)) rfl
theorem wc_X6_184 : Cond.classLink RX6 184 "HarborTides$Move" ∈ TB := TB_in (tb4 (List.mem_of_getElem? (i := 150) rfl)) rfl
theorem wm_X6_271 : Cond.methodLink RX6 271 yX1_init ∈ TB := TB_in (tb4 (List.mem_of_getElem? (i := 152) rfl)) rfl
theorem wf_X1_7 : Cond.fieldLink RX1 7 "HarborTides$Move" "hour" "I" ∈ TB := TB_in (tb4 (List.mem_of_getElem? (i := 156) rfl)) rfl
theorem wf_X0_48 : Cond.fieldLink RX0 48 "HarborTides$Move" "hour" "I" ∈ TB := TB_in (tb4 (List.mem_of_getElem? (i := 157) rfl)) rfl
theorem wf_X6_183 : Cond.fieldLink RX6 183 "HarborTides$Move" "hour" "I" ∈ TB := TB_in (tb4 (List.mem_of_getElem? (i := 158) rfl)) rfl
theorem wf_X1_13 : Cond.fieldLink RX1 13 "HarborTides$Move" "ship" "LHarborTides$Ship;" ∈ TB := TB_in (tb4 (List.mem_of_getElem? (i := 159) rfl)) rfl
theorem wf_X0_32 : Cond.fieldLink RX0 32 "HarborTides$Move" "ship" "LHarborTides$Ship;" ∈ TB := TB_in (tb4 (List.mem_of_getElem? (i := 160) rfl)) rfl
theorem wf_X6_188 : Cond.fieldLink RX6 188 "HarborTides$Move" "ship" "LHarborTides$Ship;" ∈ TB := TB_in (tb4 (List.mem_of_getElem? (i := 161) rfl)) rfl
theorem wf_X1_17 : Cond.fieldLink RX1 17 "HarborTides$Move" "out" "Z" ∈ TB := TB_in (tb4 (List.mem_of_getElem? (i := 162) rfl)) rfl
theorem wf_X0_61 : Cond.fieldLink RX0 61 "HarborTides$Move" "out" "Z" ∈ TB := TB_in (tb4 (List.mem_of_getElem? (i := 163) rfl)) rfl
theorem wf_X6_198 : Cond.fieldLink RX6 198 "HarborTides$Move" "out" "Z" ∈ TB := TB_in (tb4 (List.mem_of_getElem? (i := 164) rfl)) rfl
theorem wf_X1_21 : Cond.fieldLink RX1 21 "HarborTides$Move" "pilot" "I" ∈ TB := TB_in (tb4 (List.mem_of_getElem? (i := 165) rfl)) rfl
theorem wf_X0_51 : Cond.fieldLink RX0 51 "HarborTides$Move" "pilot" "I" ∈ TB := TB_in (tb4 (List.mem_of_getElem? (i := 166) rfl)) rfl
theorem wf_X6_195 : Cond.fieldLink RX6 195 "HarborTides$Move" "pilot" "I" ∈ TB := TB_in (tb4 (List.mem_of_getElem? (i := 167) rfl)) rfl
theorem wf_X1_24 : Cond.fieldLink RX1 24 "HarborTides$Move" "tugs" "I" ∈ TB := TB_in (tb4 (List.mem_of_getElem? (i := 168) rfl)) rfl
theorem wf_X0_58 : Cond.fieldLink RX0 58 "HarborTides$Move" "tugs" "I" ∈ TB := TB_in (tb4 (List.mem_of_getElem? (i := 169) rfl)) rfl
theorem wf_X6_208 : Cond.fieldLink RX6 208 "HarborTides$Move" "tugs" "I" ∈ TB := TB_in (tb4 (List.mem_of_getElem? (i := 170) rfl)) rfl
theorem wm_X6_274 : Cond.methodLink RX6 274 yX0_note ∈ TB := TB_in (tb4 (List.mem_of_getElem? (i := 182) rfl)) rfl
theorem wm_X0_28 : Cond.methodLink RX0 28 yJx4a65c_add_9ea2d ∈ TB := TB_in (tb4 (List.mem_of_getElem? (i := 186) rfl)) rfl
theorem wm_X6_278 : Cond.methodLink RX6 278 yX3_sendLast ∈ TB := TB_in (tb4 (List.mem_of_getElem? (i := 187) rfl)) rfl
theorem wm_X6_281 : Cond.methodLink RX6 281 yX4_beginMove ∈ TB := TB_in (tb4 (List.mem_of_getElem? (i := 191) rfl)) rfl
theorem wm_X6_285 : Cond.methodLink RX6 285 yX6_payTugs ∈ TB := TB_in (tb4 (List.mem_of_getElem? (i := 195) rfl)) rfl
theorem wm_L_131 : Cond.methodLink RL 131 yL_swap ∈ TB := TB_in (tb4 (List.mem_of_getElem? (i := 199) rfl)) rfl
theorem wm_L_53 : Cond.methodLink RL 53 yX6_swap ∈ TB := TB_in (tb4 (List.mem_of_getElem? (i := 202) rfl)) rfl
theorem wm_X6_165 : Cond.methodLink RX6 165 yX3_exchange ∈ TB := TB_in (tb4 (List.mem_of_getElem? (i := 207) rfl)) rfl
theorem wm_L_134 : Cond.methodLink RL 134 yL_rota ∈ TB := TB_in (tb4 (List.mem_of_getElem? (i := 211) rfl)) rfl
theorem wm_L_56 : Cond.methodLink RL 56 yX6_rota ∈ TB := TB_in (tb4 (List.mem_of_getElem? (i := 214) rfl)) rfl
theorem wm_L_137 : Cond.methodLink RL 137 yL_isReady ∈ TB := TB_in (tb4 (List.mem_of_getElem? (i := 218) rfl)) rfl
theorem wm_L_59 : Cond.methodLink RL 59 yX6_isReady ∈ TB := TB_in (tb4 (List.mem_of_getElem? (i := 221) rfl)) rfl
theorem wm_L_148 : Cond.methodLink RL 148 yL_move ∈ TB := TB_in (tb4 (List.mem_of_getElem? (i := 225) rfl)) rfl
theorem wm_L_63 : Cond.methodLink RL 63 yX6_move ∈ TB := TB_in (tb4 (List.mem_of_getElem? (i := 228) rfl)) rfl
theorem wm_X6_179 : Cond.methodLink RX6 179 yX0_at ∈ TB := TB_in (tb4 (List.mem_of_getElem? (i := 232) rfl)) rfl
theorem wm_L_151 : Cond.methodLink RL 151 yL_isSound ∈ TB := TB_in (tb4 (List.mem_of_getElem? (i := 236) rfl)) rfl
theorem wm_L_66 : Cond.methodLink RL 66 yX6_isSound ∈ TB := TB_in (tb4 (List.mem_of_getElem? (i := 239) rfl)) rfl
theorem wm_X6_205 : Cond.methodLink RX6 205 yX0_berthIsFree ∈ TB := TB_in (tb5 (List.mem_of_getElem? (i := 3) rfl)) rfl
theorem wm_L_154 : Cond.methodLink RL 154 yL_paid ∈ TB := TB_in (tb5 (List.mem_of_getElem? (i := 7) rfl)) rfl
theorem wm_L_69 : Cond.methodLink RL 69 yX6_paid ∈ TB := TB_in (tb5 (List.mem_of_getElem? (i := 10) rfl)) rfl
theorem wm_L_157 : Cond.methodLink RL 157 yL_earned ∈ TB := TB_in (tb5 (List.mem_of_getElem? (i := 14) rfl)) rfl
theorem wm_L_72 : Cond.methodLink RL 72 yX6_earned ∈ TB := TB_in (tb5 (List.mem_of_getElem? (i := 17) rfl)) rfl
theorem wm_L_168 : Cond.methodLink RL 168 yL_lost ∈ TB := TB_in (tb5 (List.mem_of_getElem? (i := 21) rfl)) rfl
theorem wm_L_75 : Cond.methodLink RL 75 yX6_lost ∈ TB := TB_in (tb5 (List.mem_of_getElem? (i := 24) rfl)) rfl
theorem wm_L_171 : Cond.methodLink RL 171 yL_claims ∈ TB := TB_in (tb5 (List.mem_of_getElem? (i := 28) rfl)) rfl
theorem wm_L_78 : Cond.methodLink RL 78 yX6_claims ∈ TB := TB_in (tb5 (List.mem_of_getElem? (i := 31) rfl)) rfl
theorem wm_L_174 : Cond.methodLink RL 174 yL_payClaim ∈ TB := TB_in (tb5 (List.mem_of_getElem? (i := 35) rfl)) rfl
theorem wm_L_81 : Cond.methodLink RL 81 yX6_payClaim ∈ TB := TB_in (tb5 (List.mem_of_getElem? (i := 38) rfl)) rfl
theorem wc_L_85 : Cond.classLink RL 85 "HarborTidesModel" ∈ TB := TB_in (tb5 (List.mem_of_getElem? (i := 43) rfl)) rfl
theorem wm_L_87 : Cond.methodLink RL 87 yX7_init ∈ TB := TB_in (tb5 (List.mem_of_getElem? (i := 45) rfl)) rfl
theorem wf_X7_71 : Cond.fieldLink RX7 71 "HarborTidesModel" "thrown" "I" ∈ TB := TB_in (tb5 (List.mem_of_getElem? (i := 49) rfl)) rfl
theorem wf_X7_89 : Cond.fieldLink RX7 89 "HarborTidesModel" "now" "I" ∈ TB := TB_in (tb5 (List.mem_of_getElem? (i := 50) rfl)) rfl
theorem wf_X7_7 : Cond.fieldLink RX7 7 "HarborTidesModel" "table" "[I" ∈ TB := TB_in (tb5 (List.mem_of_getElem? (i := 51) rfl)) rfl
theorem wf_X7_13 : Cond.fieldLink RX7 13 "HarborTidesModel" "surges" "[I" ∈ TB := TB_in (tb5 (List.mem_of_getElem? (i := 52) rfl)) rfl
theorem wf_X7_16 : Cond.fieldLink RX7 16 "HarborTidesModel" "deep" "[I" ∈ TB := TB_in (tb5 (List.mem_of_getElem? (i := 53) rfl)) rfl
theorem wf_X7_75 : Cond.fieldLink RX7 75 "HarborTidesModel" "ships" "I" ∈ TB := TB_in (tb5 (List.mem_of_getElem? (i := 54) rfl)) rfl
theorem wf_X7_19 : Cond.fieldLink RX7 19 "HarborTidesModel" "sizes" "[I" ∈ TB := TB_in (tb5 (List.mem_of_getElem? (i := 55) rfl)) rfl
theorem wf_X7_22 : Cond.fieldLink RX7 22 "HarborTidesModel" "draughts" "[I" ∈ TB := TB_in (tb5 (List.mem_of_getElem? (i := 56) rfl)) rfl
theorem wf_X7_25 : Cond.fieldLink RX7 25 "HarborTidesModel" "contracts" "[I" ∈ TB := TB_in (tb5 (List.mem_of_getElem? (i := 57) rfl)) rfl
theorem wf_X7_28 : Cond.fieldLink RX7 28 "HarborTidesModel" "berths" "[I" ∈ TB := TB_in (tb5 (List.mem_of_getElem? (i := 58) rfl)) rfl
theorem wf_X7_31 : Cond.fieldLink RX7 31 "HarborTidesModel" "states" "[I" ∈ TB := TB_in (tb5 (List.mem_of_getElem? (i := 59) rfl)) rfl
theorem wf_X7_34 : Cond.fieldLink RX7 34 "HarborTidesModel" "orders" "[I" ∈ TB := TB_in (tb5 (List.mem_of_getElem? (i := 60) rfl)) rfl
theorem wf_X7_37 : Cond.fieldLink RX7 37 "HarborTidesModel" "began" "[I" ∈ TB := TB_in (tb5 (List.mem_of_getElem? (i := 61) rfl)) rfl
theorem wf_X7_40 : Cond.fieldLink RX7 40 "HarborTidesModel" "paid" "[I" ∈ TB := TB_in (tb5 (List.mem_of_getElem? (i := 62) rfl)) rfl
theorem wf_X7_43 : Cond.fieldLink RX7 43 "HarborTidesModel" "lost" "[I" ∈ TB := TB_in (tb5 (List.mem_of_getElem? (i := 63) rfl)) rfl
theorem wf_X7_46 : Cond.fieldLink RX7 46 "HarborTidesModel" "claims" "[I" ∈ TB := TB_in (tb5 (List.mem_of_getElem? (i := 64) rfl)) rfl
theorem wf_X7_49 : Cond.fieldLink RX7 49 "HarborTidesModel" "rota" "[I" ∈ TB := TB_in (tb5 (List.mem_of_getElem? (i := 65) rfl)) rfl
theorem wf_X7_52 : Cond.fieldLink RX7 52 "HarborTidesModel" "earned" "[I" ∈ TB := TB_in (tb5 (List.mem_of_getElem? (i := 66) rfl)) rfl
theorem wf_X7_136 : Cond.fieldLink RX7 136 "HarborTidesModel" "tugPay" "I" ∈ TB := TB_in (tb5 (List.mem_of_getElem? (i := 67) rfl)) rfl
theorem wf_X7_139 : Cond.fieldLink RX7 139 "HarborTidesModel" "port" "I" ∈ TB := TB_in (tb5 (List.mem_of_getElem? (i := 68) rfl)) rfl
theorem wf_X7_82 : Cond.fieldLink RX7 82 "HarborTidesModel" "moves" "I" ∈ TB := TB_in (tb5 (List.mem_of_getElem? (i := 69) rfl)) rfl
theorem wf_X7_55 : Cond.fieldLink RX7 55 "HarborTidesModel" "moveHours" "[I" ∈ TB := TB_in (tb5 (List.mem_of_getElem? (i := 70) rfl)) rfl
theorem wf_X7_58 : Cond.fieldLink RX7 58 "HarborTidesModel" "moveShips" "[I" ∈ TB := TB_in (tb5 (List.mem_of_getElem? (i := 71) rfl)) rfl
theorem wf_X7_61 : Cond.fieldLink RX7 61 "HarborTidesModel" "movePilots" "[I" ∈ TB := TB_in (tb5 (List.mem_of_getElem? (i := 72) rfl)) rfl
theorem wf_X7_64 : Cond.fieldLink RX7 64 "HarborTidesModel" "moveTugs" "[I" ∈ TB := TB_in (tb5 (List.mem_of_getElem? (i := 73) rfl)) rfl
theorem wf_X7_67 : Cond.fieldLink RX7 67 "HarborTidesModel" "isOut" "[Z" ∈ TB := TB_in (tb5 (List.mem_of_getElem? (i := 74) rfl)) rfl
theorem wm_L_94 : Cond.methodLink RL 94 yX7_thrown ∈ TB := TB_in (tb5 (List.mem_of_getElem? (i := 129) rfl)) rfl
theorem wm_L_93 : Cond.methodLink RL 93 yX7_table ∈ TB := TB_in (tb5 (List.mem_of_getElem? (i := 133) rfl)) rfl
theorem wm_X7_78 : Cond.methodLink RX7 78 yX7_isIn ∈ TB := TB_in (tb5 (List.mem_of_getElem? (i := 137) rfl)) rfl
theorem wm_X7_85 : Cond.methodLink RX7 85 yX7_holds ∈ TB := TB_in (tb5 (List.mem_of_getElem? (i := 140) rfl)) rfl
theorem wm_L_101 : Cond.methodLink RL 101 yX7_wind ∈ TB := TB_in (tb5 (List.mem_of_getElem? (i := 144) rfl)) rfl
theorem wm_L_105 : Cond.methodLink RL 105 yX7_depth ∈ TB := TB_in (tb5 (List.mem_of_getElem? (i := 148) rfl)) rfl
theorem wm_X7_92 : Cond.methodLink RX7 92 yX7_depthOf ∈ TB := TB_in (tb5 (List.mem_of_getElem? (i := 152) rfl)) rfl
theorem wm_L_108 : Cond.methodLink RL 108 yX7_berth ∈ TB := TB_in (tb5 (List.mem_of_getElem? (i := 156) rfl)) rfl
theorem wm_X7_96 : Cond.methodLink RX7 96 yX7_wasUsed ∈ TB := TB_in (tb5 (List.mem_of_getElem? (i := 160) rfl)) rfl
theorem wm_L_112 : Cond.methodLink RL 112 yX7_ship ∈ TB := TB_in (tb5 (List.mem_of_getElem? (i := 164) rfl)) rfl
theorem wm_L_115 : Cond.methodLink RL 115 yX7_order ∈ TB := TB_in (tb5 (List.mem_of_getElem? (i := 168) rfl)) rfl
theorem wm_X7_99 : Cond.methodLink RX7 99 yX7_isShip ∈ TB := TB_in (tb5 (List.mem_of_getElem? (i := 172) rfl)) rfl
theorem wm_X7_102 : Cond.methodLink RX7 102 yX7_ordered ∈ TB := TB_in (tb5 (List.mem_of_getElem? (i := 176) rfl)) rfl
theorem wm_L_118 : Cond.methodLink RL 118 yX7_cancel ∈ TB := TB_in (tb5 (List.mem_of_getElem? (i := 180) rfl)) rfl
theorem wm_L_121 : Cond.methodLink RL 121 yX7_hasWater ∈ TB := TB_in (tb5 (List.mem_of_getElem? (i := 184) rfl)) rfl
theorem wm_X7_106 : Cond.methodLink RX7 106 yX7_floats ∈ TB := TB_in (tb5 (List.mem_of_getElem? (i := 188) rfl)) rfl
theorem wm_L_124 : Cond.methodLink RL 124 yX7_state ∈ TB := TB_in (tb5 (List.mem_of_getElem? (i := 192) rfl)) rfl
theorem wm_L_127 : Cond.methodLink RL 127 yX7_queue ∈ TB := TB_in (tb5 (List.mem_of_getElem? (i := 196) rfl)) rfl
theorem wm_X7_110 : Cond.methodLink RX7 110 yX7_isAhead ∈ TB := TB_in (tb5 (List.mem_of_getElem? (i := 200) rfl)) rfl
theorem wm_L_133 : Cond.methodLink RL 133 yX7_swap ∈ TB := TB_in (tb5 (List.mem_of_getElem? (i := 204) rfl)) rfl
theorem wm_X7_116 : Cond.methodLink RX7 116 yX7_isPilot ∈ TB := TB_in (tb5 (List.mem_of_getElem? (i := 208) rfl)) rfl
theorem wm_X7_119 : Cond.methodLink RX7 119 yX7_placeOf ∈ TB := TB_in (tb5 (List.mem_of_getElem? (i := 211) rfl)) rfl
theorem wm_L_136 : Cond.methodLink RL 136 yX7_rota ∈ TB := TB_in (tb5 (List.mem_of_getElem? (i := 215) rfl)) rfl
theorem wm_L_139 : Cond.methodLink RL 139 yX7_isReady ∈ TB := TB_in (tb5 (List.mem_of_getElem? (i := 219) rfl)) rfl
theorem wm_X7_113 : Cond.methodLink RX7 113 yX7_isPilotReady ∈ TB := TB_in (tb5 (List.mem_of_getElem? (i := 223) rfl)) rfl
theorem wm_L_143 : Cond.methodLink RL 143 yX7_tugs ∈ TB := TB_in (tb5 (List.mem_of_getElem? (i := 227) rfl)) rfl
theorem wm_X7_122 : Cond.methodLink RX7 122 yX7_tugsNow ∈ TB := TB_in (tb5 (List.mem_of_getElem? (i := 231) rfl)) rfl
theorem wm_L_130 : Cond.methodLink RL 130 yX7_pass ∈ TB := TB_in (tb5 (List.mem_of_getElem? (i := 235) rfl)) rfl
theorem wm_X7_158 : Cond.methodLink RX7 158 yX7_passes ∈ TB := TB_in (tb5 (List.mem_of_getElem? (i := 239) rfl)) rfl
theorem wm_X7_125 : Cond.methodLink RX7 125 yX7_pays ∈ TB := TB_in (tb6 (List.mem_of_getElem? (i := 3) rfl)) rfl
theorem wm_X7_155 : Cond.methodLink RX7 155 yX7_looksAt ∈ TB := TB_in (tb6 (List.mem_of_getElem? (i := 7) rfl)) rfl
theorem wm_X7_142 : Cond.methodLink RX7 142 yX7_isFree ∈ TB := TB_in (tb6 (List.mem_of_getElem? (i := 11) rfl)) rfl
theorem wm_X7_129 : Cond.methodLink RX7 129 yX7_firstReady ∈ TB := TB_in (tb6 (List.mem_of_getElem? (i := 15) rfl)) rfl
theorem wm_X7_145 : Cond.methodLink RX7 145 yX7_many ∈ TB := TB_in (tb6 (List.mem_of_getElem? (i := 19) rfl)) rfl
theorem wm_X7_148 : Cond.methodLink RX7 148 yX7_loses ∈ TB := TB_in (tb6 (List.mem_of_getElem? (i := 22) rfl)) rfl
theorem wm_X7_152 : Cond.methodLink RX7 152 yX7_begins ∈ TB := TB_in (tb6 (List.mem_of_getElem? (i := 26) rfl)) rfl
theorem wm_X7_132 : Cond.methodLink RX7 132 yX7_lowest ∈ TB := TB_in (tb6 (List.mem_of_getElem? (i := 30) rfl)) rfl
theorem wm_L_147 : Cond.methodLink RL 147 yX7_moves ∈ TB := TB_in (tb6 (List.mem_of_getElem? (i := 33) rfl)) rfl
theorem wm_L_150 : Cond.methodLink RL 150 yX7_move ∈ TB := TB_in (tb6 (List.mem_of_getElem? (i := 37) rfl)) rfl
theorem wm_X7_161 : Cond.methodLink RX7 161 yX7_isMove ∈ TB := TB_in (tb6 (List.mem_of_getElem? (i := 41) rfl)) rfl
theorem wm_L_153 : Cond.methodLink RL 153 yX7_isSound ∈ TB := TB_in (tb6 (List.mem_of_getElem? (i := 45) rfl)) rfl
theorem wm_L_156 : Cond.methodLink RL 156 yX7_paid ∈ TB := TB_in (tb6 (List.mem_of_getElem? (i := 49) rfl)) rfl
theorem wm_L_159 : Cond.methodLink RL 159 yX7_earned ∈ TB := TB_in (tb6 (List.mem_of_getElem? (i := 53) rfl)) rfl
theorem wm_L_163 : Cond.methodLink RL 163 yX7_tugPay ∈ TB := TB_in (tb6 (List.mem_of_getElem? (i := 57) rfl)) rfl
theorem wm_L_167 : Cond.methodLink RL 167 yX7_port ∈ TB := TB_in (tb6 (List.mem_of_getElem? (i := 61) rfl)) rfl
theorem wm_L_170 : Cond.methodLink RL 170 yX7_lost ∈ TB := TB_in (tb6 (List.mem_of_getElem? (i := 65) rfl)) rfl
theorem wm_L_173 : Cond.methodLink RL 173 yX7_claims ∈ TB := TB_in (tb6 (List.mem_of_getElem? (i := 69) rfl)) rfl
theorem wm_L_176 : Cond.methodLink RL 176 yX7_payClaim ∈ TB := TB_in (tb6 (List.mem_of_getElem? (i := 73) rfl)) rfl
theorem ms_J7_fill_53178 : MS yJ7_fill_53178 cJ7_fill_53178 4 none 2 := ⟨TB_in (tb1 (List.mem_of_getElem? (i := 46) rfl)) rfl, TB_in (tb1 (List.mem_of_getElem? (i := 3) rfl)) rfl, TB_in (tb1 (List.mem_of_getElem? (i := 47) rfl)) rfl, by decide +kernel⟩
theorem mv_X6_tugs : MV RX6 yX6_tugs cX6_tugs 1 (some .int) 0 := ⟨TB_in (tb1 (List.mem_of_getElem? (i := 153) rfl)) rfl, TB_in (tb1 (List.mem_of_getElem? (i := 154) rfl)) rfl, TB_in (tb1 (List.mem_of_getElem? (i := 1) rfl)) rfl, TB_in (tb1 (List.mem_of_getElem? (i := 155) rfl)) rfl, by decide +kernel⟩
theorem mv_X0_count : MV RX0 yX0_count cX0_count 1 (some .int) 0 := ⟨TB_in (tb1 (List.mem_of_getElem? (i := 157) rfl)) rfl, TB_in (tb1 (List.mem_of_getElem? (i := 158) rfl)) rfl, TB_in (tb1 (List.mem_of_getElem? (i := 5) rfl)) rfl, TB_in (tb1 (List.mem_of_getElem? (i := 159) rfl)) rfl, by decide +kernel⟩
theorem mv_Jx4a65c_size_8abf5 : MV RJx4a65c yJx4a65c_size_8abf5 cJx4a65c_size_8abf5 1 (some .int) 0 := ⟨TB_in (tb1 (List.mem_of_getElem? (i := 161) rfl)) rfl, TB_in (tb1 (List.mem_of_getElem? (i := 162) rfl)) rfl, TB_in (tb1 (List.mem_of_getElem? (i := 8) rfl)) rfl, TB_in (tb1 (List.mem_of_getElem? (i := 163) rfl)) rfl, by decide +kernel⟩
theorem mv_X0_readyTugs : MV RX0 yX0_readyTugs cX0_readyTugs 6 (some .int) 2 := ⟨TB_in (tb1 (List.mem_of_getElem? (i := 165) rfl)) rfl, TB_in (tb1 (List.mem_of_getElem? (i := 166) rfl)) rfl, TB_in (tb1 (List.mem_of_getElem? (i := 5) rfl)) rfl, TB_in (tb1 (List.mem_of_getElem? (i := 167) rfl)) rfl, by decide +kernel⟩
theorem ms_X0_tugsOnDuty : MS yX0_tugsOnDuty cX0_tugsOnDuty 3 (some .int) 1 := ⟨TB_in (tb1 (List.mem_of_getElem? (i := 169) rfl)) rfl, TB_in (tb1 (List.mem_of_getElem? (i := 5) rfl)) rfl, TB_in (tb1 (List.mem_of_getElem? (i := 170) rfl)) rfl, by decide +kernel⟩
theorem ms_J9_min_7cf53 : MS yJ9_min_7cf53 cJ9_min_7cf53 2 (some .int) 2 := ⟨TB_in (tb1 (List.mem_of_getElem? (i := 172) rfl)) rfl, TB_in (tb1 (List.mem_of_getElem? (i := 17) rfl)) rfl, TB_in (tb1 (List.mem_of_getElem? (i := 173) rfl)) rfl, by decide +kernel⟩
theorem mv_Jx4a65c_get_915e3 : MV RJx4a65c yJx4a65c_get_915e3 cJx4a65c_get_915e3 2 (some (.object "java/lang/Object")) 1 := ⟨TB_in (tb1 (List.mem_of_getElem? (i := 175) rfl)) rfl, TB_in (tb1 (List.mem_of_getElem? (i := 176) rfl)) rfl, TB_in (tb1 (List.mem_of_getElem? (i := 8) rfl)) rfl, TB_in (tb1 (List.mem_of_getElem? (i := 177) rfl)) rfl, by decide +kernel⟩
theorem ms_J15_checkIndex_7cf53 : MS yJ15_checkIndex_7cf53 cJ15_checkIndex_7cf53 2 (some .int) 2 := ⟨TB_in (tb1 (List.mem_of_getElem? (i := 179) rfl)) rfl, TB_in (tb1 (List.mem_of_getElem? (i := 18) rfl)) rfl, TB_in (tb1 (List.mem_of_getElem? (i := 180) rfl)) rfl, by decide +kernel⟩
theorem ms_J3_checkIndex_8e157 : MS yJ3_checkIndex_8e157 cJ3_checkIndex_8e157 3 (some .int) 3 := ⟨TB_in (tb1 (List.mem_of_getElem? (i := 182) rfl)) rfl, TB_in (tb1 (List.mem_of_getElem? (i := 19) rfl)) rfl, TB_in (tb1 (List.mem_of_getElem? (i := 183) rfl)) rfl, by decide +kernel⟩
theorem mv_Jx4a65c_elementData_915e3 : MV RJx4a65c yJx4a65c_elementData_915e3 cJx4a65c_elementData_915e3 2 (some (.object "java/lang/Object")) 1 := ⟨TB_in (tb1 (List.mem_of_getElem? (i := 185) rfl)) rfl, TB_in (tb1 (List.mem_of_getElem? (i := 186) rfl)) rfl, TB_in (tb1 (List.mem_of_getElem? (i := 8) rfl)) rfl, TB_in (tb1 (List.mem_of_getElem? (i := 187) rfl)) rfl, by decide +kernel⟩
theorem mv_X6_moves : MV RX6 yX6_moves cX6_moves 1 (some .int) 0 := ⟨TB_in (tb1 (List.mem_of_getElem? (i := 190) rfl)) rfl, TB_in (tb1 (List.mem_of_getElem? (i := 191) rfl)) rfl, TB_in (tb1 (List.mem_of_getElem? (i := 1) rfl)) rfl, TB_in (tb1 (List.mem_of_getElem? (i := 192) rfl)) rfl, by decide +kernel⟩
theorem mv_X6_tugPay : MV RX6 yX6_tugPay cX6_tugPay 1 (some .int) 0 := ⟨TB_in (tb1 (List.mem_of_getElem? (i := 194) rfl)) rfl, TB_in (tb1 (List.mem_of_getElem? (i := 195) rfl)) rfl, TB_in (tb1 (List.mem_of_getElem? (i := 1) rfl)) rfl, TB_in (tb1 (List.mem_of_getElem? (i := 196) rfl)) rfl, by decide +kernel⟩
theorem mv_X6_port : MV RX6 yX6_port cX6_port 1 (some .int) 0 := ⟨TB_in (tb1 (List.mem_of_getElem? (i := 198) rfl)) rfl, TB_in (tb1 (List.mem_of_getElem? (i := 199) rfl)) rfl, TB_in (tb1 (List.mem_of_getElem? (i := 1) rfl)) rfl, TB_in (tb1 (List.mem_of_getElem? (i := 200) rfl)) rfl, by decide +kernel⟩
theorem mv_X6_table : MV RX6 yX6_table cX6_table 4 (some .int) 2 := ⟨TB_in (tb1 (List.mem_of_getElem? (i := 208) rfl)) rfl, TB_in (tb1 (List.mem_of_getElem? (i := 209) rfl)) rfl, TB_in (tb1 (List.mem_of_getElem? (i := 1) rfl)) rfl, TB_in (tb1 (List.mem_of_getElem? (i := 210) rfl)) rfl, by decide +kernel⟩
theorem ms_X6_checkPlace : MS yX6_checkPlace cX6_checkPlace 2 none 2 := ⟨TB_in (tb1 (List.mem_of_getElem? (i := 212) rfl)) rfl, TB_in (tb1 (List.mem_of_getElem? (i := 1) rfl)) rfl, TB_in (tb1 (List.mem_of_getElem? (i := 213) rfl)) rfl, by decide +kernel⟩
theorem ms_X6_checkRange : MS yX6_checkRange cX6_checkRange 3 none 3 := ⟨TB_in (tb2 (List.mem_of_getElem? (i := 43) rfl)) rfl, TB_in (tb1 (List.mem_of_getElem? (i := 1) rfl)) rfl, TB_in (tb2 (List.mem_of_getElem? (i := 44) rfl)) rfl, by decide +kernel⟩
theorem mv_X6_wind : MV RX6 yX6_wind cX6_wind 5 (some .int) 3 := ⟨TB_in (tb2 (List.mem_of_getElem? (i := 81) rfl)) rfl, TB_in (tb2 (List.mem_of_getElem? (i := 82) rfl)) rfl, TB_in (tb1 (List.mem_of_getElem? (i := 1) rfl)) rfl, TB_in (tb2 (List.mem_of_getElem? (i := 83) rfl)) rfl, by decide +kernel⟩
theorem mv_X5_tellSurge : MV RX5 yX5_tellSurge cX5_tellSurge 6 none 3 := ⟨TB_in (tb2 (List.mem_of_getElem? (i := 85) rfl)) rfl, TB_in (tb2 (List.mem_of_getElem? (i := 86) rfl)) rfl, TB_in (tb1 (List.mem_of_getElem? (i := 2) rfl)) rfl, TB_in (tb2 (List.mem_of_getElem? (i := 87) rfl)) rfl, by decide +kernel⟩
theorem mv_X6_depth : MV RX6 yX6_depth cX6_depth 2 (some .int) 1 := ⟨TB_in (tb2 (List.mem_of_getElem? (i := 93) rfl)) rfl, TB_in (tb2 (List.mem_of_getElem? (i := 94) rfl)) rfl, TB_in (tb1 (List.mem_of_getElem? (i := 1) rfl)) rfl, TB_in (tb2 (List.mem_of_getElem? (i := 95) rfl)) rfl, by decide +kernel⟩
theorem mv_X5_depthAt : MV RX5 yX5_depthAt cX5_depthAt 2 (some .int) 1 := ⟨TB_in (tb2 (List.mem_of_getElem? (i := 97) rfl)) rfl, TB_in (tb2 (List.mem_of_getElem? (i := 98) rfl)) rfl, TB_in (tb1 (List.mem_of_getElem? (i := 2) rfl)) rfl, TB_in (tb2 (List.mem_of_getElem? (i := 99) rfl)) rfl, by decide +kernel⟩
theorem mv_X6_berth : MV RX6 yX6_berth cX6_berth 4 (some .int) 2 := ⟨TB_in (tb2 (List.mem_of_getElem? (i := 104) rfl)) rfl, TB_in (tb2 (List.mem_of_getElem? (i := 105) rfl)) rfl, TB_in (tb1 (List.mem_of_getElem? (i := 1) rfl)) rfl, TB_in (tb2 (List.mem_of_getElem? (i := 106) rfl)) rfl, by decide +kernel⟩
theorem mv_X0_hasMoveAt : MV RX0 yX0_hasMoveAt cX0_hasMoveAt 3 (some .boolean) 1 := ⟨TB_in (tb2 (List.mem_of_getElem? (i := 108) rfl)) rfl, TB_in (tb2 (List.mem_of_getElem? (i := 109) rfl)) rfl, TB_in (tb1 (List.mem_of_getElem? (i := 5) rfl)) rfl, TB_in (tb2 (List.mem_of_getElem? (i := 110) rfl)) rfl, by decide +kernel⟩
theorem mv_X6_ship : MV RX6 yX6_ship cX6_ship 6 (some .int) 4 := ⟨TB_in (tb2 (List.mem_of_getElem? (i := 116) rfl)) rfl, TB_in (tb2 (List.mem_of_getElem? (i := 117) rfl)) rfl, TB_in (tb1 (List.mem_of_getElem? (i := 1) rfl)) rfl, TB_in (tb2 (List.mem_of_getElem? (i := 118) rfl)) rfl, by decide +kernel⟩
theorem mv_Jx4a65c_add_9ea2d : MV RJx4a65c yJx4a65c_add_9ea2d cJx4a65c_add_9ea2d 2 (some .boolean) 1 := ⟨TB_in (tb2 (List.mem_of_getElem? (i := 174) rfl)) rfl, TB_in (tb2 (List.mem_of_getElem? (i := 175) rfl)) rfl, TB_in (tb1 (List.mem_of_getElem? (i := 8) rfl)) rfl, TB_in (tb2 (List.mem_of_getElem? (i := 176) rfl)) rfl, by decide +kernel⟩
theorem mv_Jx4a65c_add_72be8 : MV RJx4a65c yJx4a65c_add_72be8 cJx4a65c_add_72be8 4 none 3 := ⟨TB_in (tb2 (List.mem_of_getElem? (i := 179) rfl)) rfl, TB_in (tbP (List.mem_of_getElem? (i := 1) rfl)) rfl, TB_in (tb1 (List.mem_of_getElem? (i := 8) rfl)) rfl, TB_in (tb2 (List.mem_of_getElem? (i := 180) rfl)) rfl, by decide +kernel⟩
theorem mv_Jx4a65c_grow_d5877 : MV RJx4a65c yJx4a65c_grow_d5877 cJx4a65c_grow_d5877 1 (some (.array (.object "java/lang/Object"))) 0 := ⟨TB_in (tb2 (List.mem_of_getElem? (i := 183) rfl)) rfl, TB_in (tbP (List.mem_of_getElem? (i := 2) rfl)) rfl, TB_in (tb1 (List.mem_of_getElem? (i := 8) rfl)) rfl, TB_in (tb2 (List.mem_of_getElem? (i := 184) rfl)) rfl, by decide +kernel⟩
theorem mv_Jx4a65c_grow_92f84 : MV RJx4a65c yJx4a65c_grow_92f84 cJx4a65c_grow_92f84 4 (some (.array (.object "java/lang/Object"))) 1 := ⟨TB_in (tb2 (List.mem_of_getElem? (i := 187) rfl)) rfl, TB_in (tbP (List.mem_of_getElem? (i := 3) rfl)) rfl, TB_in (tb1 (List.mem_of_getElem? (i := 8) rfl)) rfl, TB_in (tb2 (List.mem_of_getElem? (i := 188) rfl)) rfl, by decide +kernel⟩
theorem ms_J8_newLength_cabcc : MS yJ8_newLength_cabcc cJ8_newLength_cabcc 4 (some .int) 3 := ⟨TB_in (tb2 (List.mem_of_getElem? (i := 190) rfl)) rfl, TB_in (tb1 (List.mem_of_getElem? (i := 21) rfl)) rfl, TB_in (tb2 (List.mem_of_getElem? (i := 191) rfl)) rfl, by decide +kernel⟩
theorem ms_J9_max_7cf53 : MS yJ9_max_7cf53 cJ9_max_7cf53 2 (some .int) 2 := ⟨TB_in (tb2 (List.mem_of_getElem? (i := 193) rfl)) rfl, TB_in (tb1 (List.mem_of_getElem? (i := 17) rfl)) rfl, TB_in (tb2 (List.mem_of_getElem? (i := 194) rfl)) rfl, by decide +kernel⟩
theorem ms_J8_hugeLength_7cf53 : MS yJ8_hugeLength_7cf53 cJ8_hugeLength_7cf53 3 (some .int) 2 := ⟨TB_in (tb2 (List.mem_of_getElem? (i := 197) rfl)) rfl, TB_in (tb1 (List.mem_of_getElem? (i := 21) rfl)) rfl, TB_in (tb2 (List.mem_of_getElem? (i := 198) rfl)) rfl, by decide +kernel⟩
theorem ms_J7_copyOf_1904c : MS yJ7_copyOf_1904c cJ7_copyOf_1904c 2 (some (.array (.object "java/lang/Object"))) 2 := ⟨TB_in (tb2 (List.mem_of_getElem? (i := 200) rfl)) rfl, TB_in (tb1 (List.mem_of_getElem? (i := 3) rfl)) rfl, TB_in (tb2 (List.mem_of_getElem? (i := 201) rfl)) rfl, by decide +kernel⟩
theorem ms_J7_copyOf_6403c : MS yJ7_copyOf_6403c cJ7_copyOf_6403c 4 (some (.array (.object "java/lang/Object"))) 3 := ⟨TB_in (tb2 (List.mem_of_getElem? (i := 221) rfl)) rfl, TB_in (tb1 (List.mem_of_getElem? (i := 3) rfl)) rfl, TB_in (tb2 (List.mem_of_getElem? (i := 222) rfl)) rfl, by decide +kernel⟩
theorem mv_X6_order : MV RX6 yX6_order cX6_order 4 (some .int) 2 := ⟨TB_in (tb2 (List.mem_of_getElem? (i := 236) rfl)) rfl, TB_in (tb2 (List.mem_of_getElem? (i := 237) rfl)) rfl, TB_in (tb1 (List.mem_of_getElem? (i := 1) rfl)) rfl, TB_in (tb2 (List.mem_of_getElem? (i := 238) rfl)) rfl, by decide +kernel⟩
theorem mv_X6_shipAt : MV RX6 yX6_shipAt cX6_shipAt 2 (some (.object "HarborTides$Ship")) 1 := ⟨TB_in (tb3 (List.mem_of_getElem? (i := 1) rfl)) rfl, TB_in (tbP (List.mem_of_getElem? (i := 4) rfl)) rfl, TB_in (tb1 (List.mem_of_getElem? (i := 1) rfl)) rfl, TB_in (tb3 (List.mem_of_getElem? (i := 2) rfl)) rfl, by decide +kernel⟩
theorem mv_X4_canMove : MV RX4 yX4_canMove cX4_canMove 1 (some .boolean) 0 := ⟨TB_in (tb3 (List.mem_of_getElem? (i := 5) rfl)) rfl, TB_in (tb3 (List.mem_of_getElem? (i := 6) rfl)) rfl, TB_in (tb1 (List.mem_of_getElem? (i := 20) rfl)) rfl, TB_in (tb3 (List.mem_of_getElem? (i := 7) rfl)) rfl, by decide +kernel⟩
theorem mv_X4_hasOrder : MV RX4 yX4_hasOrder cX4_hasOrder 1 (some .boolean) 0 := ⟨TB_in (tb3 (List.mem_of_getElem? (i := 10) rfl)) rfl, TB_in (tb3 (List.mem_of_getElem? (i := 11) rfl)) rfl, TB_in (tb1 (List.mem_of_getElem? (i := 20) rfl)) rfl, TB_in (tb3 (List.mem_of_getElem? (i := 12) rfl)) rfl, by decide +kernel⟩
theorem mv_X2_insert : MV RX2 yX2_insert cX2_insert 3 none 1 := ⟨TB_in (tb3 (List.mem_of_getElem? (i := 15) rfl)) rfl, TB_in (tb3 (List.mem_of_getElem? (i := 16) rfl)) rfl, TB_in (tb1 (List.mem_of_getElem? (i := 9) rfl)) rfl, TB_in (tb3 (List.mem_of_getElem? (i := 17) rfl)) rfl, by decide +kernel⟩
theorem mv_X4_isAheadOf : MV RX4 yX4_isAheadOf cX4_isAheadOf 2 (some .boolean) 1 := ⟨TB_in (tb3 (List.mem_of_getElem? (i := 22) rfl)) rfl, TB_in (tb3 (List.mem_of_getElem? (i := 23) rfl)) rfl, TB_in (tb1 (List.mem_of_getElem? (i := 20) rfl)) rfl, TB_in (tb3 (List.mem_of_getElem? (i := 24) rfl)) rfl, by decide +kernel⟩
theorem mv_Jx4a65c_add_7a177 : MV RJx4a65c yJx4a65c_add_7a177 cJx4a65c_add_7a177 5 none 2 := ⟨TB_in (tb3 (List.mem_of_getElem? (i := 26) rfl)) rfl, TB_in (tb3 (List.mem_of_getElem? (i := 27) rfl)) rfl, TB_in (tb1 (List.mem_of_getElem? (i := 8) rfl)) rfl, TB_in (tb3 (List.mem_of_getElem? (i := 28) rfl)) rfl, by decide +kernel⟩
theorem mv_Jx4a65c_rangeCheckForAdd_d00df : MV RJx4a65c yJx4a65c_rangeCheckForAdd_d00df cJx4a65c_rangeCheckForAdd_d00df 2 none 1 := ⟨TB_in (tb3 (List.mem_of_getElem? (i := 31) rfl)) rfl, TB_in (tbP (List.mem_of_getElem? (i := 5) rfl)) rfl, TB_in (tb1 (List.mem_of_getElem? (i := 8) rfl)) rfl, TB_in (tb3 (List.mem_of_getElem? (i := 32) rfl)) rfl, by decide +kernel⟩
theorem mv_Jx4a65c_outOfBoundsMsg_b52d3 : MV RJx4a65c yJx4a65c_outOfBoundsMsg_b52d3 cJx4a65c_outOfBoundsMsg_b52d3 2 (some (.object "java/lang/String")) 1 := ⟨TB_in (tb3 (List.mem_of_getElem? (i := 36) rfl)) rfl, TB_in (tbP (List.mem_of_getElem? (i := 6) rfl)) rfl, TB_in (tb1 (List.mem_of_getElem? (i := 8) rfl)) rfl, TB_in (tb3 (List.mem_of_getElem? (i := 37) rfl)) rfl, by decide +kernel⟩
theorem ms_J2_newBytesFor_77867 : MS yJ2_newBytesFor_77867 cJ2_newBytesFor_77867 1 (some (.array .byte)) 1 := ⟨TB_in (tb3 (List.mem_of_getElem? (i := 50) rfl)) rfl, TB_in (tb1 (List.mem_of_getElem? (i := 26) rfl)) rfl, TB_in (tb3 (List.mem_of_getElem? (i := 51) rfl)) rfl, by decide +kernel⟩
theorem ms_J2_newBytesLength_0f7a4 : MS yJ2_newBytesLength_0f7a4 cJ2_newBytesLength_0f7a4 1 (some .int) 1 := ⟨TB_in (tb3 (List.mem_of_getElem? (i := 53) rfl)) rfl, TB_in (tb1 (List.mem_of_getElem? (i := 26) rfl)) rfl, TB_in (tb3 (List.mem_of_getElem? (i := 54) rfl)) rfl, by decide +kernel⟩
theorem mv_J4_append_15ec4 : MV RJ4 yJ4_append_15ec4 cJ4_append_15ec4 2 (some (.object "java/lang/StringBuilder")) 1 := ⟨TB_in (tb3 (List.mem_of_getElem? (i := 71) rfl)) rfl, TB_in (tb3 (List.mem_of_getElem? (i := 72) rfl)) rfl, TB_in (tb1 (List.mem_of_getElem? (i := 24) rfl)) rfl, TB_in (tb3 (List.mem_of_getElem? (i := 73) rfl)) rfl, by decide +kernel⟩
theorem ms_J7_copyOf_9075b : MS yJ7_copyOf_9075b cJ7_copyOf_9075b 3 (some (.array .byte)) 2 := ⟨TB_in (tb3 (List.mem_of_getElem? (i := 92) rfl)) rfl, TB_in (tb1 (List.mem_of_getElem? (i := 3) rfl)) rfl, TB_in (tb3 (List.mem_of_getElem? (i := 93) rfl)) rfl, by decide +kernel⟩
theorem ms_J2_putCharsAt_cd4e5 : MS yJ2_putCharsAt_cd4e5 cJ2_putCharsAt_cd4e5 7 (some .int) 6 := ⟨TB_in (tb3 (List.mem_of_getElem? (i := 107) rfl)) rfl, TB_in (tb1 (List.mem_of_getElem? (i := 26) rfl)) rfl, TB_in (tb3 (List.mem_of_getElem? (i := 108) rfl)) rfl, by decide +kernel⟩
theorem ms_J2_checkBoundsBeginEnd_d044e : MS yJ2_checkBoundsBeginEnd_d044e cJ2_checkBoundsBeginEnd_d044e 3 none 3 := ⟨TB_in (tb3 (List.mem_of_getElem? (i := 110) rfl)) rfl, TB_in (tb1 (List.mem_of_getElem? (i := 26) rfl)) rfl, TB_in (tb3 (List.mem_of_getElem? (i := 111) rfl)) rfl, by decide +kernel⟩
theorem ms_J2_length_9d52b : MS yJ2_length_9d52b cJ2_length_9d52b 1 (some .int) 1 := ⟨TB_in (tb3 (List.mem_of_getElem? (i := 113) rfl)) rfl, TB_in (tb1 (List.mem_of_getElem? (i := 26) rfl)) rfl, TB_in (tb3 (List.mem_of_getElem? (i := 114) rfl)) rfl, by decide +kernel⟩
theorem ms_J0_checkBoundsBeginEnd_23922 : MS yJ0_checkBoundsBeginEnd_23922 cJ0_checkBoundsBeginEnd_23922 3 none 3 := ⟨TB_in (tb3 (List.mem_of_getElem? (i := 116) rfl)) rfl, TB_in (tb1 (List.mem_of_getElem? (i := 25) rfl)) rfl, TB_in (tb3 (List.mem_of_getElem? (i := 117) rfl)) rfl, by decide +kernel⟩
theorem ms_J3_checkFromToIndex_8c36e : MS yJ3_checkFromToIndex_8c36e cJ3_checkFromToIndex_8c36e 4 (some .int) 4 := ⟨TB_in (tb3 (List.mem_of_getElem? (i := 121) rfl)) rfl, TB_in (tb1 (List.mem_of_getElem? (i := 19) rfl)) rfl, TB_in (tb3 (List.mem_of_getElem? (i := 122) rfl)) rfl, by decide +kernel⟩
theorem ms_J2_putChar_b72d1 : MS yJ2_putChar_b72d1 cJ2_putChar_b72d1 3 none 3 := ⟨TB_in (tb3 (List.mem_of_getElem? (i := 124) rfl)) rfl, TB_in (tb1 (List.mem_of_getElem? (i := 26) rfl)) rfl, TB_in (tb3 (List.mem_of_getElem? (i := 125) rfl)) rfl, by decide +kernel⟩
theorem mv_J0_length_8abf5 : MV RJ0 yJ0_length_8abf5 cJ0_length_8abf5 1 (some .int) 0 := ⟨TB_in (tb3 (List.mem_of_getElem? (i := 133) rfl)) rfl, TB_in (tb3 (List.mem_of_getElem? (i := 134) rfl)) rfl, TB_in (tb1 (List.mem_of_getElem? (i := 25) rfl)) rfl, TB_in (tb3 (List.mem_of_getElem? (i := 135) rfl)) rfl, by decide +kernel⟩
theorem mv_J0_coder_7d493 : MV RJ0 yJ0_coder_7d493 cJ0_coder_7d493 1 (some .byte) 0 := ⟨TB_in (tb3 (List.mem_of_getElem? (i := 137) rfl)) rfl, TB_in (tb3 (List.mem_of_getElem? (i := 138) rfl)) rfl, TB_in (tb1 (List.mem_of_getElem? (i := 25) rfl)) rfl, TB_in (tb3 (List.mem_of_getElem? (i := 139) rfl)) rfl, by decide +kernel⟩
theorem ms_J1_inflate_0e8fd : MS yJ1_inflate_0e8fd cJ1_inflate_0e8fd 5 none 5 := ⟨TB_in (tb3 (List.mem_of_getElem? (i := 155) rfl)) rfl, TB_in (tb1 (List.mem_of_getElem? (i := 27) rfl)) rfl, TB_in (tb3 (List.mem_of_getElem? (i := 156) rfl)) rfl, by decide +kernel⟩
theorem ms_J2_inflate_0e8fd : MS yJ2_inflate_0e8fd cJ2_inflate_0e8fd 6 none 5 := ⟨TB_in (tb3 (List.mem_of_getElem? (i := 158) rfl)) rfl, TB_in (tb1 (List.mem_of_getElem? (i := 26) rfl)) rfl, TB_in (tb3 (List.mem_of_getElem? (i := 159) rfl)) rfl, by decide +kernel⟩
theorem ms_J2_checkBoundsOffCount_d044e : MS yJ2_checkBoundsOffCount_d044e cJ2_checkBoundsOffCount_d044e 3 none 3 := ⟨TB_in (tb3 (List.mem_of_getElem? (i := 161) rfl)) rfl, TB_in (tb1 (List.mem_of_getElem? (i := 26) rfl)) rfl, TB_in (tb3 (List.mem_of_getElem? (i := 162) rfl)) rfl, by decide +kernel⟩
theorem ms_J0_checkBoundsOffCount_cabcc : MS yJ0_checkBoundsOffCount_cabcc cJ0_checkBoundsOffCount_cabcc 3 (some .int) 3 := ⟨TB_in (tb3 (List.mem_of_getElem? (i := 164) rfl)) rfl, TB_in (tb1 (List.mem_of_getElem? (i := 25) rfl)) rfl, TB_in (tb3 (List.mem_of_getElem? (i := 165) rfl)) rfl, by decide +kernel⟩
theorem ms_J3_checkFromIndexSize_8c36e : MS yJ3_checkFromIndexSize_8c36e cJ3_checkFromIndexSize_8c36e 4 (some .int) 4 := ⟨TB_in (tb3 (List.mem_of_getElem? (i := 167) rfl)) rfl, TB_in (tb1 (List.mem_of_getElem? (i := 19) rfl)) rfl, TB_in (tb3 (List.mem_of_getElem? (i := 168) rfl)) rfl, by decide +kernel⟩
theorem mv_J0_getBytes_840e7 : MV RJ0 yJ0_getBytes_840e7 cJ0_getBytes_840e7 4 none 3 := ⟨TB_in (tb3 (List.mem_of_getElem? (i := 170) rfl)) rfl, TB_in (tb3 (List.mem_of_getElem? (i := 171) rfl)) rfl, TB_in (tb1 (List.mem_of_getElem? (i := 25) rfl)) rfl, TB_in (tb3 (List.mem_of_getElem? (i := 172) rfl)) rfl, by decide +kernel⟩
theorem mv_J4_append_bf812 : MV RJ4 yJ4_append_bf812 cJ4_append_bf812 2 (some (.object "java/lang/StringBuilder")) 1 := ⟨TB_in (tb3 (List.mem_of_getElem? (i := 176) rfl)) rfl, TB_in (tb3 (List.mem_of_getElem? (i := 177) rfl)) rfl, TB_in (tb1 (List.mem_of_getElem? (i := 24) rfl)) rfl, TB_in (tb3 (List.mem_of_getElem? (i := 178) rfl)) rfl, by decide +kernel⟩
theorem ms_J6_stringSize_0f7a4 : MS yJ6_stringSize_0f7a4 cJ6_stringSize_0f7a4 4 (some .int) 1 := ⟨TB_in (tb3 (List.mem_of_getElem? (i := 183) rfl)) rfl, TB_in (tb1 (List.mem_of_getElem? (i := 29) rfl)) rfl, TB_in (tb3 (List.mem_of_getElem? (i := 184) rfl)) rfl, by decide +kernel⟩
theorem ms_J6_getChars_ba4f3 : MS yJ6_getChars_ba4f3 cJ6_getChars_ba4f3 7 (some .int) 3 := ⟨TB_in (tb3 (List.mem_of_getElem? (i := 186) rfl)) rfl, TB_in (tb1 (List.mem_of_getElem? (i := 29) rfl)) rfl, TB_in (tb3 (List.mem_of_getElem? (i := 187) rfl)) rfl, by decide +kernel⟩
theorem ms_J2_getChars_46870 : MS yJ2_getChars_46870 cJ2_getChars_46870 5 (some .int) 4 := ⟨TB_in (tb3 (List.mem_of_getElem? (i := 193) rfl)) rfl, TB_in (tb1 (List.mem_of_getElem? (i := 26) rfl)) rfl, TB_in (tb3 (List.mem_of_getElem? (i := 194) rfl)) rfl, by decide +kernel⟩
theorem ms_J2_getChars_ba4f3 : MS yJ2_getChars_ba4f3 cJ2_getChars_ba4f3 7 (some .int) 3 := ⟨TB_in (tb3 (List.mem_of_getElem? (i := 196) rfl)) rfl, TB_in (tb1 (List.mem_of_getElem? (i := 26) rfl)) rfl, TB_in (tb3 (List.mem_of_getElem? (i := 197) rfl)) rfl, by decide +kernel⟩
theorem mv_J4_toString_0e30d : MV RJ4 yJ4_toString_0e30d cJ4_toString_0e30d 1 (some (.object "java/lang/String")) 0 := ⟨TB_in (tb3 (List.mem_of_getElem? (i := 202) rfl)) rfl, TB_in (tb3 (List.mem_of_getElem? (i := 203) rfl)) rfl, TB_in (tb1 (List.mem_of_getElem? (i := 24) rfl)) rfl, TB_in (tb3 (List.mem_of_getElem? (i := 204) rfl)) rfl, by decide +kernel⟩
theorem ms_J7_copyOfRange_39247 : MS yJ7_copyOfRange_39247 cJ7_copyOfRange_39247 3 (some (.array .byte)) 3 := ⟨TB_in (tb3 (List.mem_of_getElem? (i := 229) rfl)) rfl, TB_in (tb1 (List.mem_of_getElem? (i := 3) rfl)) rfl, TB_in (tb3 (List.mem_of_getElem? (i := 230) rfl)) rfl, by decide +kernel⟩
theorem ms_J7_copyOfRangeByte_39247 : MS yJ7_copyOfRangeByte_39247 cJ7_copyOfRangeByte_39247 5 (some (.array .byte)) 3 := ⟨TB_in (tb3 (List.mem_of_getElem? (i := 232) rfl)) rfl, TB_in (tb1 (List.mem_of_getElem? (i := 3) rfl)) rfl, TB_in (tb3 (List.mem_of_getElem? (i := 233) rfl)) rfl, by decide +kernel⟩
theorem ms_J7_checkLength_df160 : MS yJ7_checkLength_df160 cJ7_checkLength_df160 2 none 2 := ⟨TB_in (tb3 (List.mem_of_getElem? (i := 235) rfl)) rfl, TB_in (tb1 (List.mem_of_getElem? (i := 3) rfl)) rfl, TB_in (tb3 (List.mem_of_getElem? (i := 236) rfl)) rfl, by decide +kernel⟩
theorem ms_J2_compress_39247 : MS yJ2_compress_39247 cJ2_compress_39247 6 (some (.array .byte)) 3 := ⟨TB_in (tb4 (List.mem_of_getElem? (i := 6) rfl)) rfl, TB_in (tb1 (List.mem_of_getElem? (i := 26) rfl)) rfl, TB_in (tb4 (List.mem_of_getElem? (i := 7) rfl)) rfl, by decide +kernel⟩
theorem ms_J2_compress_5af95 : MS yJ2_compress_5af95 cJ2_compress_5af95 7 (some .int) 5 := ⟨TB_in (tb4 (List.mem_of_getElem? (i := 9) rfl)) rfl, TB_in (tb1 (List.mem_of_getElem? (i := 26) rfl)) rfl, TB_in (tb4 (List.mem_of_getElem? (i := 10) rfl)) rfl, by decide +kernel⟩
theorem ms_J2_getChar_3b067 : MS yJ2_getChar_3b067 cJ2_getChar_3b067 2 (some .char) 2 := ⟨TB_in (tb4 (List.mem_of_getElem? (i := 12) rfl)) rfl, TB_in (tb1 (List.mem_of_getElem? (i := 26) rfl)) rfl, TB_in (tb4 (List.mem_of_getElem? (i := 13) rfl)) rfl, by decide +kernel⟩
theorem ms_J2_coderFromArrayLen_85cad : MS yJ2_coderFromArrayLen_85cad cJ2_coderFromArrayLen_85cad 2 (some .byte) 2 := ⟨TB_in (tb4 (List.mem_of_getElem? (i := 16) rfl)) rfl, TB_in (tb1 (List.mem_of_getElem? (i := 26) rfl)) rfl, TB_in (tb4 (List.mem_of_getElem? (i := 17) rfl)) rfl, by decide +kernel⟩
theorem mv_X2_count : MV RX2 yX2_count cX2_count 1 (some .int) 0 := ⟨TB_in (tb4 (List.mem_of_getElem? (i := 32) rfl)) rfl, TB_in (tb4 (List.mem_of_getElem? (i := 33) rfl)) rfl, TB_in (tb1 (List.mem_of_getElem? (i := 9) rfl)) rfl, TB_in (tb4 (List.mem_of_getElem? (i := 34) rfl)) rfl, by decide +kernel⟩
theorem mv_X6_cancel : MV RX6 yX6_cancel cX6_cancel 4 (some .int) 1 := ⟨TB_in (tb4 (List.mem_of_getElem? (i := 39) rfl)) rfl, TB_in (tb4 (List.mem_of_getElem? (i := 40) rfl)) rfl, TB_in (tb1 (List.mem_of_getElem? (i := 1) rfl)) rfl, TB_in (tb4 (List.mem_of_getElem? (i := 41) rfl)) rfl, by decide +kernel⟩
theorem mv_X2_drop : MV RX2 yX2_drop cX2_drop 3 none 1 := ⟨TB_in (tb4 (List.mem_of_getElem? (i := 44) rfl)) rfl, TB_in (tb4 (List.mem_of_getElem? (i := 45) rfl)) rfl, TB_in (tb1 (List.mem_of_getElem? (i := 9) rfl)) rfl, TB_in (tb4 (List.mem_of_getElem? (i := 46) rfl)) rfl, by decide +kernel⟩
theorem mv_X2_placeOf : MV RX2 yX2_placeOf cX2_placeOf 3 (some .int) 1 := ⟨TB_in (tb4 (List.mem_of_getElem? (i := 48) rfl)) rfl, TB_in (tb4 (List.mem_of_getElem? (i := 49) rfl)) rfl, TB_in (tb1 (List.mem_of_getElem? (i := 9) rfl)) rfl, TB_in (tb4 (List.mem_of_getElem? (i := 50) rfl)) rfl, by decide +kernel⟩
theorem mv_Jx4a65c_remove_915e3 : MV RJx4a65c yJx4a65c_remove_915e3 cJx4a65c_remove_915e3 4 (some (.object "java/lang/Object")) 1 := ⟨TB_in (tb4 (List.mem_of_getElem? (i := 52) rfl)) rfl, TB_in (tb4 (List.mem_of_getElem? (i := 53) rfl)) rfl, TB_in (tb1 (List.mem_of_getElem? (i := 8) rfl)) rfl, TB_in (tb4 (List.mem_of_getElem? (i := 54) rfl)) rfl, by decide +kernel⟩
theorem mv_Jx4a65c_fastRemove_b59b0 : MV RJx4a65c yJx4a65c_fastRemove_b59b0 cJx4a65c_fastRemove_b59b0 4 none 2 := ⟨TB_in (tb4 (List.mem_of_getElem? (i := 57) rfl)) rfl, TB_in (tbP (List.mem_of_getElem? (i := 7) rfl)) rfl, TB_in (tb1 (List.mem_of_getElem? (i := 8) rfl)) rfl, TB_in (tb4 (List.mem_of_getElem? (i := 58) rfl)) rfl, by decide +kernel⟩
theorem mv_X6_hasWater : MV RX6 yX6_hasWater cX6_hasWater 4 (some .boolean) 2 := ⟨TB_in (tb4 (List.mem_of_getElem? (i := 63) rfl)) rfl, TB_in (tb4 (List.mem_of_getElem? (i := 64) rfl)) rfl, TB_in (tb1 (List.mem_of_getElem? (i := 1) rfl)) rfl, TB_in (tb4 (List.mem_of_getElem? (i := 65) rfl)) rfl, by decide +kernel⟩
theorem mv_X5_carries : MV RX5 yX5_carries cX5_carries 7 (some .boolean) 3 := ⟨TB_in (tb4 (List.mem_of_getElem? (i := 67) rfl)) rfl, TB_in (tb4 (List.mem_of_getElem? (i := 68) rfl)) rfl, TB_in (tb1 (List.mem_of_getElem? (i := 2) rfl)) rfl, TB_in (tb4 (List.mem_of_getElem? (i := 69) rfl)) rfl, by decide +kernel⟩
theorem mv_X6_state : MV RX6 yX6_state cX6_state 2 (some .int) 1 := ⟨TB_in (tb4 (List.mem_of_getElem? (i := 75) rfl)) rfl, TB_in (tb4 (List.mem_of_getElem? (i := 76) rfl)) rfl, TB_in (tb1 (List.mem_of_getElem? (i := 1) rfl)) rfl, TB_in (tb4 (List.mem_of_getElem? (i := 77) rfl)) rfl, by decide +kernel⟩
theorem mv_X6_queue : MV RX6 yX6_queue cX6_queue 2 (some .int) 1 := ⟨TB_in (tb4 (List.mem_of_getElem? (i := 82) rfl)) rfl, TB_in (tb4 (List.mem_of_getElem? (i := 83) rfl)) rfl, TB_in (tb1 (List.mem_of_getElem? (i := 1) rfl)) rfl, TB_in (tb4 (List.mem_of_getElem? (i := 84) rfl)) rfl, by decide +kernel⟩
theorem mv_X6_pass : MV RX6 yX6_pass cX6_pass 4 (some .int) 1 := ⟨TB_in (tb4 (List.mem_of_getElem? (i := 90) rfl)) rfl, TB_in (tb4 (List.mem_of_getElem? (i := 91) rfl)) rfl, TB_in (tb1 (List.mem_of_getElem? (i := 1) rfl)) rfl, TB_in (tb4 (List.mem_of_getElem? (i := 92) rfl)) rfl, by decide +kernel⟩
theorem mv_X6_endMoves : MV RX6 yX6_endMoves cX6_endMoves 2 none 0 := ⟨TB_in (tb4 (List.mem_of_getElem? (i := 96) rfl)) rfl, TB_in (tbP (List.mem_of_getElem? (i := 8) rfl)) rfl, TB_in (tb1 (List.mem_of_getElem? (i := 1) rfl)) rfl, TB_in (tb4 (List.mem_of_getElem? (i := 97) rfl)) rfl, by decide +kernel⟩
theorem mv_X4_endMove : MV RX4 yX4_endMove cX4_endMove 2 none 1 := ⟨TB_in (tb4 (List.mem_of_getElem? (i := 99) rfl)) rfl, TB_in (tb4 (List.mem_of_getElem? (i := 100) rfl)) rfl, TB_in (tb1 (List.mem_of_getElem? (i := 20) rfl)) rfl, TB_in (tb4 (List.mem_of_getElem? (i := 101) rfl)) rfl, by decide +kernel⟩
theorem mv_X6_takeBerthDues : MV RX6 yX6_takeBerthDues cX6_takeBerthDues 3 none 0 := ⟨TB_in (tb4 (List.mem_of_getElem? (i := 105) rfl)) rfl, TB_in (tbP (List.mem_of_getElem? (i := 9) rfl)) rfl, TB_in (tb1 (List.mem_of_getElem? (i := 1) rfl)) rfl, TB_in (tb4 (List.mem_of_getElem? (i := 106) rfl)) rfl, by decide +kernel⟩
theorem mv_X6_payPort : MV RX6 yX6_payPort cX6_payPort 3 none 2 := ⟨TB_in (tb4 (List.mem_of_getElem? (i := 109) rfl)) rfl, TB_in (tbP (List.mem_of_getElem? (i := 10) rfl)) rfl, TB_in (tb1 (List.mem_of_getElem? (i := 1) rfl)) rfl, TB_in (tb4 (List.mem_of_getElem? (i := 110) rfl)) rfl, by decide +kernel⟩
theorem mv_X6_lookAtOrders : MV RX6 yX6_lookAtOrders cX6_lookAtOrders 4 none 0 := ⟨TB_in (tb4 (List.mem_of_getElem? (i := 113) rfl)) rfl, TB_in (tbP (List.mem_of_getElem? (i := 11) rfl)) rfl, TB_in (tb1 (List.mem_of_getElem? (i := 1) rfl)) rfl, TB_in (tb4 (List.mem_of_getElem? (i := 114) rfl)) rfl, by decide +kernel⟩
theorem mv_X2_at : MV RX2 yX2_at cX2_at 2 (some (.object "HarborTides$Ship")) 1 := ⟨TB_in (tb4 (List.mem_of_getElem? (i := 116) rfl)) rfl, TB_in (tb4 (List.mem_of_getElem? (i := 117) rfl)) rfl, TB_in (tb1 (List.mem_of_getElem? (i := 9) rfl)) rfl, TB_in (tb4 (List.mem_of_getElem? (i := 118) rfl)) rfl, by decide +kernel⟩
theorem mv_X6_settles : MV RX6 yX6_settles cX6_settles 5 (some .boolean) 1 := ⟨TB_in (tb4 (List.mem_of_getElem? (i := 121) rfl)) rfl, TB_in (tbP (List.mem_of_getElem? (i := 12) rfl)) rfl, TB_in (tb1 (List.mem_of_getElem? (i := 1) rfl)) rfl, TB_in (tb4 (List.mem_of_getElem? (i := 122) rfl)) rfl, by decide +kernel⟩
theorem mv_X6_loseTide : MV RX6 yX6_loseTide cX6_loseTide 3 none 1 := ⟨TB_in (tb4 (List.mem_of_getElem? (i := 125) rfl)) rfl, TB_in (tbP (List.mem_of_getElem? (i := 13) rfl)) rfl, TB_in (tb1 (List.mem_of_getElem? (i := 1) rfl)) rfl, TB_in (tb4 (List.mem_of_getElem? (i := 126) rfl)) rfl, by decide +kernel⟩
theorem mv_X6_payPilot : MV RX6 yX6_payPilot cX6_payPilot 3 none 2 := ⟨TB_in (tb4 (List.mem_of_getElem? (i := 129) rfl)) rfl, TB_in (tbP (List.mem_of_getElem? (i := 14) rfl)) rfl, TB_in (tb1 (List.mem_of_getElem? (i := 1) rfl)) rfl, TB_in (tb4 (List.mem_of_getElem? (i := 130) rfl)) rfl, by decide +kernel⟩
theorem mv_X6_begins : MV RX6 yX6_begins cX6_begins 5 (some .boolean) 2 := ⟨TB_in (tb4 (List.mem_of_getElem? (i := 133) rfl)) rfl, TB_in (tbP (List.mem_of_getElem? (i := 15) rfl)) rfl, TB_in (tb1 (List.mem_of_getElem? (i := 1) rfl)) rfl, TB_in (tb4 (List.mem_of_getElem? (i := 134) rfl)) rfl, by decide +kernel⟩
theorem mv_X6_berthIsFreeNow : MV RX6 yX6_berthIsFreeNow cX6_berthIsFreeNow 4 (some .boolean) 1 := ⟨TB_in (tb4 (List.mem_of_getElem? (i := 137) rfl)) rfl, TB_in (tbP (List.mem_of_getElem? (i := 16) rfl)) rfl, TB_in (tb1 (List.mem_of_getElem? (i := 1) rfl)) rfl, TB_in (tb4 (List.mem_of_getElem? (i := 138) rfl)) rfl, by decide +kernel⟩
theorem mv_X6_firstReadyPilot : MV RX6 yX6_firstReadyPilot cX6_firstReadyPilot 3 (some .int) 0 := ⟨TB_in (tb4 (List.mem_of_getElem? (i := 141) rfl)) rfl, TB_in (tbP (List.mem_of_getElem? (i := 17) rfl)) rfl, TB_in (tb1 (List.mem_of_getElem? (i := 1) rfl)) rfl, TB_in (tb4 (List.mem_of_getElem? (i := 142) rfl)) rfl, by decide +kernel⟩
theorem mv_X0_pilotIsReady : MV RX0 yX0_pilotIsReady cX0_pilotIsReady 8 (some .boolean) 3 := ⟨TB_in (tb4 (List.mem_of_getElem? (i := 144) rfl)) rfl, TB_in (tb4 (List.mem_of_getElem? (i := 145) rfl)) rfl, TB_in (tb1 (List.mem_of_getElem? (i := 5) rfl)) rfl, TB_in (tb4 (List.mem_of_getElem? (i := 146) rfl)) rfl, by decide +kernel⟩
theorem ms_X6_lowestOf : MS yX6_lowestOf cX6_lowestOf 5 (some .int) 2 := ⟨TB_in (tb4 (List.mem_of_getElem? (i := 148) rfl)) rfl, TB_in (tb1 (List.mem_of_getElem? (i := 1) rfl)) rfl, TB_in (tb4 (List.mem_of_getElem? (i := 149) rfl)) rfl, by decide +kernel⟩
theorem mv_X0_note : MV RX0 yX0_note cX0_note 2 none 1 := ⟨TB_in (tb4 (List.mem_of_getElem? (i := 183) rfl)) rfl, TB_in (tb4 (List.mem_of_getElem? (i := 184) rfl)) rfl, TB_in (tb1 (List.mem_of_getElem? (i := 5) rfl)) rfl, TB_in (tb4 (List.mem_of_getElem? (i := 185) rfl)) rfl, by decide +kernel⟩
theorem mv_X3_sendLast : MV RX3 yX3_sendLast cX3_sendLast 4 none 1 := ⟨TB_in (tb4 (List.mem_of_getElem? (i := 188) rfl)) rfl, TB_in (tb4 (List.mem_of_getElem? (i := 189) rfl)) rfl, TB_in (tb1 (List.mem_of_getElem? (i := 4) rfl)) rfl, TB_in (tb4 (List.mem_of_getElem? (i := 190) rfl)) rfl, by decide +kernel⟩
theorem mv_X4_beginMove : MV RX4 yX4_beginMove cX4_beginMove 3 none 2 := ⟨TB_in (tb4 (List.mem_of_getElem? (i := 192) rfl)) rfl, TB_in (tb4 (List.mem_of_getElem? (i := 193) rfl)) rfl, TB_in (tb1 (List.mem_of_getElem? (i := 20) rfl)) rfl, TB_in (tb4 (List.mem_of_getElem? (i := 194) rfl)) rfl, by decide +kernel⟩
theorem mv_X6_payTugs : MV RX6 yX6_payTugs cX6_payTugs 2 none 1 := ⟨TB_in (tb4 (List.mem_of_getElem? (i := 197) rfl)) rfl, TB_in (tbP (List.mem_of_getElem? (i := 18) rfl)) rfl, TB_in (tb1 (List.mem_of_getElem? (i := 1) rfl)) rfl, TB_in (tb4 (List.mem_of_getElem? (i := 198) rfl)) rfl, by decide +kernel⟩
theorem mv_X6_swap : MV RX6 yX6_swap cX6_swap 3 (some .int) 2 := ⟨TB_in (tb4 (List.mem_of_getElem? (i := 203) rfl)) rfl, TB_in (tb4 (List.mem_of_getElem? (i := 204) rfl)) rfl, TB_in (tb1 (List.mem_of_getElem? (i := 1) rfl)) rfl, TB_in (tb4 (List.mem_of_getElem? (i := 205) rfl)) rfl, by decide +kernel⟩
theorem mv_X3_exchange : MV RX3 yX3_exchange cX3_exchange 5 (some .int) 2 := ⟨TB_in (tb4 (List.mem_of_getElem? (i := 208) rfl)) rfl, TB_in (tb4 (List.mem_of_getElem? (i := 209) rfl)) rfl, TB_in (tb1 (List.mem_of_getElem? (i := 4) rfl)) rfl, TB_in (tb4 (List.mem_of_getElem? (i := 210) rfl)) rfl, by decide +kernel⟩
theorem mv_X6_rota : MV RX6 yX6_rota cX6_rota 2 (some .int) 1 := ⟨TB_in (tb4 (List.mem_of_getElem? (i := 215) rfl)) rfl, TB_in (tb4 (List.mem_of_getElem? (i := 216) rfl)) rfl, TB_in (tb1 (List.mem_of_getElem? (i := 1) rfl)) rfl, TB_in (tb4 (List.mem_of_getElem? (i := 217) rfl)) rfl, by decide +kernel⟩
theorem mv_X6_isReady : MV RX6 yX6_isReady cX6_isReady 2 (some .boolean) 1 := ⟨TB_in (tb4 (List.mem_of_getElem? (i := 222) rfl)) rfl, TB_in (tb4 (List.mem_of_getElem? (i := 223) rfl)) rfl, TB_in (tb1 (List.mem_of_getElem? (i := 1) rfl)) rfl, TB_in (tb4 (List.mem_of_getElem? (i := 224) rfl)) rfl, by decide +kernel⟩
theorem mv_X6_move : MV RX6 yX6_move cX6_move 3 (some .int) 1 := ⟨TB_in (tb4 (List.mem_of_getElem? (i := 229) rfl)) rfl, TB_in (tb4 (List.mem_of_getElem? (i := 230) rfl)) rfl, TB_in (tb1 (List.mem_of_getElem? (i := 1) rfl)) rfl, TB_in (tb4 (List.mem_of_getElem? (i := 231) rfl)) rfl, by decide +kernel⟩
theorem mv_X0_at : MV RX0 yX0_at cX0_at 2 (some (.object "HarborTides$Move")) 1 := ⟨TB_in (tb4 (List.mem_of_getElem? (i := 233) rfl)) rfl, TB_in (tb4 (List.mem_of_getElem? (i := 234) rfl)) rfl, TB_in (tb1 (List.mem_of_getElem? (i := 5) rfl)) rfl, TB_in (tb4 (List.mem_of_getElem? (i := 235) rfl)) rfl, by decide +kernel⟩
theorem mv_X6_isSound : MV RX6 yX6_isSound cX6_isSound 3 (some .boolean) 1 := ⟨TB_in (tb5 (List.mem_of_getElem? (i := 0) rfl)) rfl, TB_in (tb5 (List.mem_of_getElem? (i := 1) rfl)) rfl, TB_in (tb1 (List.mem_of_getElem? (i := 1) rfl)) rfl, TB_in (tb5 (List.mem_of_getElem? (i := 2) rfl)) rfl, by decide +kernel⟩
theorem mv_X0_berthIsFree : MV RX0 yX0_berthIsFree cX0_berthIsFree 7 (some .boolean) 3 := ⟨TB_in (tb5 (List.mem_of_getElem? (i := 4) rfl)) rfl, TB_in (tb5 (List.mem_of_getElem? (i := 5) rfl)) rfl, TB_in (tb1 (List.mem_of_getElem? (i := 5) rfl)) rfl, TB_in (tb5 (List.mem_of_getElem? (i := 6) rfl)) rfl, by decide +kernel⟩
theorem mv_X6_paid : MV RX6 yX6_paid cX6_paid 2 (some .int) 1 := ⟨TB_in (tb5 (List.mem_of_getElem? (i := 11) rfl)) rfl, TB_in (tb5 (List.mem_of_getElem? (i := 12) rfl)) rfl, TB_in (tb1 (List.mem_of_getElem? (i := 1) rfl)) rfl, TB_in (tb5 (List.mem_of_getElem? (i := 13) rfl)) rfl, by decide +kernel⟩
theorem mv_X6_earned : MV RX6 yX6_earned cX6_earned 2 (some .int) 1 := ⟨TB_in (tb5 (List.mem_of_getElem? (i := 18) rfl)) rfl, TB_in (tb5 (List.mem_of_getElem? (i := 19) rfl)) rfl, TB_in (tb1 (List.mem_of_getElem? (i := 1) rfl)) rfl, TB_in (tb5 (List.mem_of_getElem? (i := 20) rfl)) rfl, by decide +kernel⟩
theorem mv_X6_lost : MV RX6 yX6_lost cX6_lost 2 (some .int) 1 := ⟨TB_in (tb5 (List.mem_of_getElem? (i := 25) rfl)) rfl, TB_in (tb5 (List.mem_of_getElem? (i := 26) rfl)) rfl, TB_in (tb1 (List.mem_of_getElem? (i := 1) rfl)) rfl, TB_in (tb5 (List.mem_of_getElem? (i := 27) rfl)) rfl, by decide +kernel⟩
theorem mv_X6_claims : MV RX6 yX6_claims cX6_claims 2 (some .int) 1 := ⟨TB_in (tb5 (List.mem_of_getElem? (i := 32) rfl)) rfl, TB_in (tb5 (List.mem_of_getElem? (i := 33) rfl)) rfl, TB_in (tb1 (List.mem_of_getElem? (i := 1) rfl)) rfl, TB_in (tb5 (List.mem_of_getElem? (i := 34) rfl)) rfl, by decide +kernel⟩
theorem mv_X6_payClaim : MV RX6 yX6_payClaim cX6_payClaim 4 (some .int) 1 := ⟨TB_in (tb5 (List.mem_of_getElem? (i := 39) rfl)) rfl, TB_in (tb5 (List.mem_of_getElem? (i := 40) rfl)) rfl, TB_in (tb1 (List.mem_of_getElem? (i := 1) rfl)) rfl, TB_in (tb5 (List.mem_of_getElem? (i := 41) rfl)) rfl, by decide +kernel⟩
theorem mv_X7_thrown : MV RX7 yX7_thrown cX7_thrown 1 (some .int) 0 := ⟨TB_in (tb5 (List.mem_of_getElem? (i := 130) rfl)) rfl, TB_in (tb5 (List.mem_of_getElem? (i := 131) rfl)) rfl, TB_in (tb1 (List.mem_of_getElem? (i := 10) rfl)) rfl, TB_in (tb5 (List.mem_of_getElem? (i := 132) rfl)) rfl, by decide +kernel⟩
theorem mv_X7_table : MV RX7 yX7_table cX7_table 4 (some .int) 2 := ⟨TB_in (tb5 (List.mem_of_getElem? (i := 134) rfl)) rfl, TB_in (tb5 (List.mem_of_getElem? (i := 135) rfl)) rfl, TB_in (tb1 (List.mem_of_getElem? (i := 10) rfl)) rfl, TB_in (tb5 (List.mem_of_getElem? (i := 136) rfl)) rfl, by decide +kernel⟩
theorem ms_X7_isIn : MS yX7_isIn cX7_isIn 3 (some .boolean) 3 := ⟨TB_in (tb5 (List.mem_of_getElem? (i := 138) rfl)) rfl, TB_in (tb1 (List.mem_of_getElem? (i := 10) rfl)) rfl, TB_in (tb5 (List.mem_of_getElem? (i := 139) rfl)) rfl, by decide +kernel⟩
theorem mv_X7_holds : MV RX7 yX7_holds cX7_holds 2 (some .boolean) 1 := ⟨TB_in (tb5 (List.mem_of_getElem? (i := 142) rfl)) rfl, TB_in (tbP (List.mem_of_getElem? (i := 19) rfl)) rfl, TB_in (tb1 (List.mem_of_getElem? (i := 10) rfl)) rfl, TB_in (tb5 (List.mem_of_getElem? (i := 143) rfl)) rfl, by decide +kernel⟩
theorem mv_X7_wind : MV RX7 yX7_wind cX7_wind 6 (some .int) 3 := ⟨TB_in (tb5 (List.mem_of_getElem? (i := 145) rfl)) rfl, TB_in (tb5 (List.mem_of_getElem? (i := 146) rfl)) rfl, TB_in (tb1 (List.mem_of_getElem? (i := 10) rfl)) rfl, TB_in (tb5 (List.mem_of_getElem? (i := 147) rfl)) rfl, by decide +kernel⟩
theorem mv_X7_depth : MV RX7 yX7_depth cX7_depth 2 (some .int) 1 := ⟨TB_in (tb5 (List.mem_of_getElem? (i := 149) rfl)) rfl, TB_in (tb5 (List.mem_of_getElem? (i := 150) rfl)) rfl, TB_in (tb1 (List.mem_of_getElem? (i := 10) rfl)) rfl, TB_in (tb5 (List.mem_of_getElem? (i := 151) rfl)) rfl, by decide +kernel⟩
theorem mv_X7_depthOf : MV RX7 yX7_depthOf cX7_depthOf 2 (some .int) 1 := ⟨TB_in (tb5 (List.mem_of_getElem? (i := 154) rfl)) rfl, TB_in (tbP (List.mem_of_getElem? (i := 20) rfl)) rfl, TB_in (tb1 (List.mem_of_getElem? (i := 10) rfl)) rfl, TB_in (tb5 (List.mem_of_getElem? (i := 155) rfl)) rfl, by decide +kernel⟩
theorem mv_X7_berth : MV RX7 yX7_berth cX7_berth 4 (some .int) 2 := ⟨TB_in (tb5 (List.mem_of_getElem? (i := 157) rfl)) rfl, TB_in (tb5 (List.mem_of_getElem? (i := 158) rfl)) rfl, TB_in (tb1 (List.mem_of_getElem? (i := 10) rfl)) rfl, TB_in (tb5 (List.mem_of_getElem? (i := 159) rfl)) rfl, by decide +kernel⟩
theorem mv_X7_wasUsed : MV RX7 yX7_wasUsed cX7_wasUsed 4 (some .boolean) 1 := ⟨TB_in (tb5 (List.mem_of_getElem? (i := 162) rfl)) rfl, TB_in (tbP (List.mem_of_getElem? (i := 21) rfl)) rfl, TB_in (tb1 (List.mem_of_getElem? (i := 10) rfl)) rfl, TB_in (tb5 (List.mem_of_getElem? (i := 163) rfl)) rfl, by decide +kernel⟩
theorem mv_X7_ship : MV RX7 yX7_ship cX7_ship 6 (some .int) 4 := ⟨TB_in (tb5 (List.mem_of_getElem? (i := 165) rfl)) rfl, TB_in (tb5 (List.mem_of_getElem? (i := 166) rfl)) rfl, TB_in (tb1 (List.mem_of_getElem? (i := 10) rfl)) rfl, TB_in (tb5 (List.mem_of_getElem? (i := 167) rfl)) rfl, by decide +kernel⟩
theorem mv_X7_order : MV RX7 yX7_order cX7_order 5 (some .int) 2 := ⟨TB_in (tb5 (List.mem_of_getElem? (i := 169) rfl)) rfl, TB_in (tb5 (List.mem_of_getElem? (i := 170) rfl)) rfl, TB_in (tb1 (List.mem_of_getElem? (i := 10) rfl)) rfl, TB_in (tb5 (List.mem_of_getElem? (i := 171) rfl)) rfl, by decide +kernel⟩
theorem mv_X7_isShip : MV RX7 yX7_isShip cX7_isShip 2 (some .boolean) 1 := ⟨TB_in (tb5 (List.mem_of_getElem? (i := 174) rfl)) rfl, TB_in (tbP (List.mem_of_getElem? (i := 22) rfl)) rfl, TB_in (tb1 (List.mem_of_getElem? (i := 10) rfl)) rfl, TB_in (tb5 (List.mem_of_getElem? (i := 175) rfl)) rfl, by decide +kernel⟩
theorem mv_X7_ordered : MV RX7 yX7_ordered cX7_ordered 3 (some .int) 0 := ⟨TB_in (tb5 (List.mem_of_getElem? (i := 178) rfl)) rfl, TB_in (tbP (List.mem_of_getElem? (i := 23) rfl)) rfl, TB_in (tb1 (List.mem_of_getElem? (i := 10) rfl)) rfl, TB_in (tb5 (List.mem_of_getElem? (i := 179) rfl)) rfl, by decide +kernel⟩
theorem mv_X7_cancel : MV RX7 yX7_cancel cX7_cancel 4 (some .int) 1 := ⟨TB_in (tb5 (List.mem_of_getElem? (i := 181) rfl)) rfl, TB_in (tb5 (List.mem_of_getElem? (i := 182) rfl)) rfl, TB_in (tb1 (List.mem_of_getElem? (i := 10) rfl)) rfl, TB_in (tb5 (List.mem_of_getElem? (i := 183) rfl)) rfl, by decide +kernel⟩
theorem mv_X7_hasWater : MV RX7 yX7_hasWater cX7_hasWater 3 (some .boolean) 2 := ⟨TB_in (tb5 (List.mem_of_getElem? (i := 185) rfl)) rfl, TB_in (tb5 (List.mem_of_getElem? (i := 186) rfl)) rfl, TB_in (tb1 (List.mem_of_getElem? (i := 10) rfl)) rfl, TB_in (tb5 (List.mem_of_getElem? (i := 187) rfl)) rfl, by decide +kernel⟩
theorem mv_X7_floats : MV RX7 yX7_floats cX7_floats 7 (some .boolean) 2 := ⟨TB_in (tb5 (List.mem_of_getElem? (i := 190) rfl)) rfl, TB_in (tbP (List.mem_of_getElem? (i := 24) rfl)) rfl, TB_in (tb1 (List.mem_of_getElem? (i := 10) rfl)) rfl, TB_in (tb5 (List.mem_of_getElem? (i := 191) rfl)) rfl, by decide +kernel⟩
theorem mv_X7_state : MV RX7 yX7_state cX7_state 2 (some .int) 1 := ⟨TB_in (tb5 (List.mem_of_getElem? (i := 193) rfl)) rfl, TB_in (tb5 (List.mem_of_getElem? (i := 194) rfl)) rfl, TB_in (tb1 (List.mem_of_getElem? (i := 10) rfl)) rfl, TB_in (tb5 (List.mem_of_getElem? (i := 195) rfl)) rfl, by decide +kernel⟩
theorem mv_X7_queue : MV RX7 yX7_queue cX7_queue 4 (some .int) 1 := ⟨TB_in (tb5 (List.mem_of_getElem? (i := 197) rfl)) rfl, TB_in (tb5 (List.mem_of_getElem? (i := 198) rfl)) rfl, TB_in (tb1 (List.mem_of_getElem? (i := 10) rfl)) rfl, TB_in (tb5 (List.mem_of_getElem? (i := 199) rfl)) rfl, by decide +kernel⟩
theorem mv_X7_isAhead : MV RX7 yX7_isAhead cX7_isAhead 3 (some .boolean) 2 := ⟨TB_in (tb5 (List.mem_of_getElem? (i := 202) rfl)) rfl, TB_in (tbP (List.mem_of_getElem? (i := 25) rfl)) rfl, TB_in (tb1 (List.mem_of_getElem? (i := 10) rfl)) rfl, TB_in (tb5 (List.mem_of_getElem? (i := 203) rfl)) rfl, by decide +kernel⟩
theorem mv_X7_swap : MV RX7 yX7_swap cX7_swap 5 (some .int) 2 := ⟨TB_in (tb5 (List.mem_of_getElem? (i := 205) rfl)) rfl, TB_in (tb5 (List.mem_of_getElem? (i := 206) rfl)) rfl, TB_in (tb1 (List.mem_of_getElem? (i := 10) rfl)) rfl, TB_in (tb5 (List.mem_of_getElem? (i := 207) rfl)) rfl, by decide +kernel⟩
theorem ms_X7_isPilot : MS yX7_isPilot cX7_isPilot 1 (some .boolean) 1 := ⟨TB_in (tb5 (List.mem_of_getElem? (i := 209) rfl)) rfl, TB_in (tb1 (List.mem_of_getElem? (i := 10) rfl)) rfl, TB_in (tb5 (List.mem_of_getElem? (i := 210) rfl)) rfl, by decide +kernel⟩
theorem mv_X7_placeOf : MV RX7 yX7_placeOf cX7_placeOf 4 (some .int) 1 := ⟨TB_in (tb5 (List.mem_of_getElem? (i := 213) rfl)) rfl, TB_in (tbP (List.mem_of_getElem? (i := 26) rfl)) rfl, TB_in (tb1 (List.mem_of_getElem? (i := 10) rfl)) rfl, TB_in (tb5 (List.mem_of_getElem? (i := 214) rfl)) rfl, by decide +kernel⟩
theorem mv_X7_rota : MV RX7 yX7_rota cX7_rota 2 (some .int) 1 := ⟨TB_in (tb5 (List.mem_of_getElem? (i := 216) rfl)) rfl, TB_in (tb5 (List.mem_of_getElem? (i := 217) rfl)) rfl, TB_in (tb1 (List.mem_of_getElem? (i := 10) rfl)) rfl, TB_in (tb5 (List.mem_of_getElem? (i := 218) rfl)) rfl, by decide +kernel⟩
theorem mv_X7_isReady : MV RX7 yX7_isReady cX7_isReady 2 (some .boolean) 1 := ⟨TB_in (tb5 (List.mem_of_getElem? (i := 220) rfl)) rfl, TB_in (tb5 (List.mem_of_getElem? (i := 221) rfl)) rfl, TB_in (tb1 (List.mem_of_getElem? (i := 10) rfl)) rfl, TB_in (tb5 (List.mem_of_getElem? (i := 222) rfl)) rfl, by decide +kernel⟩
theorem mv_X7_isPilotReady : MV RX7 yX7_isPilotReady cX7_isPilotReady 5 (some .boolean) 1 := ⟨TB_in (tb5 (List.mem_of_getElem? (i := 225) rfl)) rfl, TB_in (tbP (List.mem_of_getElem? (i := 27) rfl)) rfl, TB_in (tb1 (List.mem_of_getElem? (i := 10) rfl)) rfl, TB_in (tb5 (List.mem_of_getElem? (i := 226) rfl)) rfl, by decide +kernel⟩
theorem mv_X7_tugs : MV RX7 yX7_tugs cX7_tugs 1 (some .int) 0 := ⟨TB_in (tb5 (List.mem_of_getElem? (i := 228) rfl)) rfl, TB_in (tb5 (List.mem_of_getElem? (i := 229) rfl)) rfl, TB_in (tb1 (List.mem_of_getElem? (i := 10) rfl)) rfl, TB_in (tb5 (List.mem_of_getElem? (i := 230) rfl)) rfl, by decide +kernel⟩
theorem mv_X7_tugsNow : MV RX7 yX7_tugsNow cX7_tugsNow 5 (some .int) 0 := ⟨TB_in (tb5 (List.mem_of_getElem? (i := 233) rfl)) rfl, TB_in (tbP (List.mem_of_getElem? (i := 28) rfl)) rfl, TB_in (tb1 (List.mem_of_getElem? (i := 10) rfl)) rfl, TB_in (tb5 (List.mem_of_getElem? (i := 234) rfl)) rfl, by decide +kernel⟩
theorem mv_X7_pass : MV RX7 yX7_pass cX7_pass 4 (some .int) 1 := ⟨TB_in (tb5 (List.mem_of_getElem? (i := 236) rfl)) rfl, TB_in (tb5 (List.mem_of_getElem? (i := 237) rfl)) rfl, TB_in (tb1 (List.mem_of_getElem? (i := 10) rfl)) rfl, TB_in (tb5 (List.mem_of_getElem? (i := 238) rfl)) rfl, by decide +kernel⟩
theorem mv_X7_passes : MV RX7 yX7_passes cX7_passes 6 none 0 := ⟨TB_in (tb6 (List.mem_of_getElem? (i := 1) rfl)) rfl, TB_in (tbP (List.mem_of_getElem? (i := 29) rfl)) rfl, TB_in (tb1 (List.mem_of_getElem? (i := 10) rfl)) rfl, TB_in (tb6 (List.mem_of_getElem? (i := 2) rfl)) rfl, by decide +kernel⟩
theorem mv_X7_pays : MV RX7 yX7_pays cX7_pays 3 none 2 := ⟨TB_in (tb6 (List.mem_of_getElem? (i := 5) rfl)) rfl, TB_in (tbP (List.mem_of_getElem? (i := 30) rfl)) rfl, TB_in (tb1 (List.mem_of_getElem? (i := 10) rfl)) rfl, TB_in (tb6 (List.mem_of_getElem? (i := 6) rfl)) rfl, by decide +kernel⟩
theorem mv_X7_looksAt : MV RX7 yX7_looksAt cX7_looksAt 4 none 1 := ⟨TB_in (tb6 (List.mem_of_getElem? (i := 9) rfl)) rfl, TB_in (tbP (List.mem_of_getElem? (i := 31) rfl)) rfl, TB_in (tb1 (List.mem_of_getElem? (i := 10) rfl)) rfl, TB_in (tb6 (List.mem_of_getElem? (i := 10) rfl)) rfl, by decide +kernel⟩
theorem mv_X7_isFree : MV RX7 yX7_isFree cX7_isFree 4 (some .boolean) 1 := ⟨TB_in (tb6 (List.mem_of_getElem? (i := 13) rfl)) rfl, TB_in (tbP (List.mem_of_getElem? (i := 32) rfl)) rfl, TB_in (tb1 (List.mem_of_getElem? (i := 10) rfl)) rfl, TB_in (tb6 (List.mem_of_getElem? (i := 14) rfl)) rfl, by decide +kernel⟩
theorem mv_X7_firstReady : MV RX7 yX7_firstReady cX7_firstReady 3 (some .int) 0 := ⟨TB_in (tb6 (List.mem_of_getElem? (i := 17) rfl)) rfl, TB_in (tbP (List.mem_of_getElem? (i := 33) rfl)) rfl, TB_in (tb1 (List.mem_of_getElem? (i := 10) rfl)) rfl, TB_in (tb6 (List.mem_of_getElem? (i := 18) rfl)) rfl, by decide +kernel⟩
theorem ms_X7_many : MS yX7_many cX7_many 3 (some .int) 1 := ⟨TB_in (tb6 (List.mem_of_getElem? (i := 20) rfl)) rfl, TB_in (tb1 (List.mem_of_getElem? (i := 10) rfl)) rfl, TB_in (tb6 (List.mem_of_getElem? (i := 21) rfl)) rfl, by decide +kernel⟩
theorem mv_X7_loses : MV RX7 yX7_loses cX7_loses 2 none 1 := ⟨TB_in (tb6 (List.mem_of_getElem? (i := 24) rfl)) rfl, TB_in (tbP (List.mem_of_getElem? (i := 34) rfl)) rfl, TB_in (tb1 (List.mem_of_getElem? (i := 10) rfl)) rfl, TB_in (tb6 (List.mem_of_getElem? (i := 25) rfl)) rfl, by decide +kernel⟩
theorem mv_X7_begins : MV RX7 yX7_begins cX7_begins 5 none 1 := ⟨TB_in (tb6 (List.mem_of_getElem? (i := 28) rfl)) rfl, TB_in (tbP (List.mem_of_getElem? (i := 35) rfl)) rfl, TB_in (tb1 (List.mem_of_getElem? (i := 10) rfl)) rfl, TB_in (tb6 (List.mem_of_getElem? (i := 29) rfl)) rfl, by decide +kernel⟩
theorem ms_X7_lowest : MS yX7_lowest cX7_lowest 6 (some .int) 2 := ⟨TB_in (tb6 (List.mem_of_getElem? (i := 31) rfl)) rfl, TB_in (tb1 (List.mem_of_getElem? (i := 10) rfl)) rfl, TB_in (tb6 (List.mem_of_getElem? (i := 32) rfl)) rfl, by decide +kernel⟩
theorem mv_X7_moves : MV RX7 yX7_moves cX7_moves 1 (some .int) 0 := ⟨TB_in (tb6 (List.mem_of_getElem? (i := 34) rfl)) rfl, TB_in (tb6 (List.mem_of_getElem? (i := 35) rfl)) rfl, TB_in (tb1 (List.mem_of_getElem? (i := 10) rfl)) rfl, TB_in (tb6 (List.mem_of_getElem? (i := 36) rfl)) rfl, by decide +kernel⟩
theorem mv_X7_move : MV RX7 yX7_move cX7_move 2 (some .int) 1 := ⟨TB_in (tb6 (List.mem_of_getElem? (i := 38) rfl)) rfl, TB_in (tb6 (List.mem_of_getElem? (i := 39) rfl)) rfl, TB_in (tb1 (List.mem_of_getElem? (i := 10) rfl)) rfl, TB_in (tb6 (List.mem_of_getElem? (i := 40) rfl)) rfl, by decide +kernel⟩
theorem mv_X7_isMove : MV RX7 yX7_isMove cX7_isMove 2 (some .boolean) 1 := ⟨TB_in (tb6 (List.mem_of_getElem? (i := 43) rfl)) rfl, TB_in (tbP (List.mem_of_getElem? (i := 36) rfl)) rfl, TB_in (tb1 (List.mem_of_getElem? (i := 10) rfl)) rfl, TB_in (tb6 (List.mem_of_getElem? (i := 44) rfl)) rfl, by decide +kernel⟩
theorem mv_X7_isSound : MV RX7 yX7_isSound cX7_isSound 2 (some .boolean) 1 := ⟨TB_in (tb6 (List.mem_of_getElem? (i := 46) rfl)) rfl, TB_in (tb6 (List.mem_of_getElem? (i := 47) rfl)) rfl, TB_in (tb1 (List.mem_of_getElem? (i := 10) rfl)) rfl, TB_in (tb6 (List.mem_of_getElem? (i := 48) rfl)) rfl, by decide +kernel⟩
theorem mv_X7_paid : MV RX7 yX7_paid cX7_paid 2 (some .int) 1 := ⟨TB_in (tb6 (List.mem_of_getElem? (i := 50) rfl)) rfl, TB_in (tb6 (List.mem_of_getElem? (i := 51) rfl)) rfl, TB_in (tb1 (List.mem_of_getElem? (i := 10) rfl)) rfl, TB_in (tb6 (List.mem_of_getElem? (i := 52) rfl)) rfl, by decide +kernel⟩
theorem mv_X7_earned : MV RX7 yX7_earned cX7_earned 2 (some .int) 1 := ⟨TB_in (tb6 (List.mem_of_getElem? (i := 54) rfl)) rfl, TB_in (tb6 (List.mem_of_getElem? (i := 55) rfl)) rfl, TB_in (tb1 (List.mem_of_getElem? (i := 10) rfl)) rfl, TB_in (tb6 (List.mem_of_getElem? (i := 56) rfl)) rfl, by decide +kernel⟩
theorem mv_X7_tugPay : MV RX7 yX7_tugPay cX7_tugPay 1 (some .int) 0 := ⟨TB_in (tb6 (List.mem_of_getElem? (i := 58) rfl)) rfl, TB_in (tb6 (List.mem_of_getElem? (i := 59) rfl)) rfl, TB_in (tb1 (List.mem_of_getElem? (i := 10) rfl)) rfl, TB_in (tb6 (List.mem_of_getElem? (i := 60) rfl)) rfl, by decide +kernel⟩
theorem mv_X7_port : MV RX7 yX7_port cX7_port 1 (some .int) 0 := ⟨TB_in (tb6 (List.mem_of_getElem? (i := 62) rfl)) rfl, TB_in (tb6 (List.mem_of_getElem? (i := 63) rfl)) rfl, TB_in (tb1 (List.mem_of_getElem? (i := 10) rfl)) rfl, TB_in (tb6 (List.mem_of_getElem? (i := 64) rfl)) rfl, by decide +kernel⟩
theorem mv_X7_lost : MV RX7 yX7_lost cX7_lost 2 (some .int) 1 := ⟨TB_in (tb6 (List.mem_of_getElem? (i := 66) rfl)) rfl, TB_in (tb6 (List.mem_of_getElem? (i := 67) rfl)) rfl, TB_in (tb1 (List.mem_of_getElem? (i := 10) rfl)) rfl, TB_in (tb6 (List.mem_of_getElem? (i := 68) rfl)) rfl, by decide +kernel⟩
theorem mv_X7_claims : MV RX7 yX7_claims cX7_claims 2 (some .int) 1 := ⟨TB_in (tb6 (List.mem_of_getElem? (i := 70) rfl)) rfl, TB_in (tb6 (List.mem_of_getElem? (i := 71) rfl)) rfl, TB_in (tb1 (List.mem_of_getElem? (i := 10) rfl)) rfl, TB_in (tb6 (List.mem_of_getElem? (i := 72) rfl)) rfl, by decide +kernel⟩
theorem mv_X7_payClaim : MV RX7 yX7_payClaim cX7_payClaim 3 (some .int) 1 := ⟨TB_in (tb6 (List.mem_of_getElem? (i := 74) rfl)) rfl, TB_in (tb6 (List.mem_of_getElem? (i := 75) rfl)) rfl, TB_in (tb1 (List.mem_of_getElem? (i := 10) rfl)) rfl, TB_in (tb6 (List.mem_of_getElem? (i := 76) rfl)) rfl, by decide +kernel⟩
theorem in_X0 : ∀ w ∈ u_ws RX0 TX0 1, w ∈ TB := by
  intro w hw
  obtain ⟨k, hk, rfl⟩ := List.mem_map.mp hw
  have hk := List.mem_range.mp hk
  rcases (show k = 0 by omega) with rfl
  · exact TB_in (tb1 (List.mem_of_getElem? (i := 110) rfl)) rfl
theorem in_X1 : ∀ w ∈ u_ws RX1 TX1 5, w ∈ TB := by
  intro w hw
  obtain ⟨k, hk, rfl⟩ := List.mem_map.mp hw
  have hk := List.mem_range.mp hk
  rcases (show k = 0 ∨ k = 1 ∨ k = 2 ∨ k = 3 ∨ k = 4 by omega) with rfl | rfl | rfl | rfl | rfl
  · exact TB_in (tb4 (List.mem_of_getElem? (i := 171) rfl)) rfl
  · exact TB_in (tb4 (List.mem_of_getElem? (i := 173) rfl)) rfl
  · exact TB_in (tb4 (List.mem_of_getElem? (i := 175) rfl)) rfl
  · exact TB_in (tb4 (List.mem_of_getElem? (i := 177) rfl)) rfl
  · exact TB_in (tb4 (List.mem_of_getElem? (i := 179) rfl)) rfl
theorem in_X2 : ∀ w ∈ u_ws RX2 TX2 1, w ∈ TB := by
  intro w hw
  obtain ⟨k, hk, rfl⟩ := List.mem_map.mp hw
  have hk := List.mem_range.mp hk
  rcases (show k = 0 by omega) with rfl
  · exact TB_in (tb1 (List.mem_of_getElem? (i := 124) rfl)) rfl
theorem in_X3 : ∀ w ∈ u_ws RX3 TX3 2, w ∈ TB := by
  intro w hw
  obtain ⟨k, hk, rfl⟩ := List.mem_map.mp hw
  have hk := List.mem_range.mp hk
  rcases (show k = 0 ∨ k = 1 by omega) with rfl | rfl
  · exact TB_in (tb1 (List.mem_of_getElem? (i := 72) rfl)) rfl
  · exact TB_in (tb1 (List.mem_of_getElem? (i := 74) rfl)) rfl
theorem in_X4 : ∀ w ∈ u_ws RX4 TX4 11, w ∈ TB := by
  intro w hw
  obtain ⟨k, hk, rfl⟩ := List.mem_map.mp hw
  have hk := List.mem_range.mp hk
  rcases (show k = 0 ∨ k = 1 ∨ k = 2 ∨ k = 3 ∨ k = 4 ∨ k = 5 ∨ k = 6 ∨ k = 7 ∨ k = 8 ∨ k = 9 ∨ k = 10 by omega) with rfl | rfl | rfl | rfl | rfl | rfl | rfl | rfl | rfl | rfl | rfl
  · exact TB_in (tb2 (List.mem_of_getElem? (i := 150) rfl)) rfl
  · exact TB_in (tb2 (List.mem_of_getElem? (i := 152) rfl)) rfl
  · exact TB_in (tb2 (List.mem_of_getElem? (i := 154) rfl)) rfl
  · exact TB_in (tb2 (List.mem_of_getElem? (i := 156) rfl)) rfl
  · exact TB_in (tb2 (List.mem_of_getElem? (i := 158) rfl)) rfl
  · exact TB_in (tb2 (List.mem_of_getElem? (i := 160) rfl)) rfl
  · exact TB_in (tb2 (List.mem_of_getElem? (i := 162) rfl)) rfl
  · exact TB_in (tb2 (List.mem_of_getElem? (i := 164) rfl)) rfl
  · exact TB_in (tb2 (List.mem_of_getElem? (i := 166) rfl)) rfl
  · exact TB_in (tb2 (List.mem_of_getElem? (i := 168) rfl)) rfl
  · exact TB_in (tb2 (List.mem_of_getElem? (i := 170) rfl)) rfl
theorem in_X5 : ∀ w ∈ u_ws RX5 TX5 3, w ∈ TB := by
  intro w hw
  obtain ⟨k, hk, rfl⟩ := List.mem_map.mp hw
  have hk := List.mem_range.mp hk
  rcases (show k = 0 ∨ k = 1 ∨ k = 2 by omega) with rfl | rfl | rfl
  · exact TB_in (tb1 (List.mem_of_getElem? (i := 54) rfl)) rfl
  · exact TB_in (tb1 (List.mem_of_getElem? (i := 56) rfl)) rfl
  · exact TB_in (tb1 (List.mem_of_getElem? (i := 58) rfl)) rfl
theorem in_X6 : ∀ w ∈ u_ws RX6 TX6 8, w ∈ TB := by
  intro w hw
  obtain ⟨k, hk, rfl⟩ := List.mem_map.mp hw
  have hk := List.mem_range.mp hk
  rcases (show k = 0 ∨ k = 1 ∨ k = 2 ∨ k = 3 ∨ k = 4 ∨ k = 5 ∨ k = 6 ∨ k = 7 by omega) with rfl | rfl | rfl | rfl | rfl | rfl | rfl | rfl
  · exact TB_in (tb1 (List.mem_of_getElem? (i := 135) rfl)) rfl
  · exact TB_in (tb1 (List.mem_of_getElem? (i := 137) rfl)) rfl
  · exact TB_in (tb1 (List.mem_of_getElem? (i := 139) rfl)) rfl
  · exact TB_in (tb1 (List.mem_of_getElem? (i := 141) rfl)) rfl
  · exact TB_in (tb1 (List.mem_of_getElem? (i := 143) rfl)) rfl
  · exact TB_in (tb1 (List.mem_of_getElem? (i := 145) rfl)) rfl
  · exact TB_in (tb1 (List.mem_of_getElem? (i := 147) rfl)) rfl
  · exact TB_in (tb1 (List.mem_of_getElem? (i := 149) rfl)) rfl
theorem in_X7 : ∀ w ∈ u_ws RX7 TX7 26, w ∈ TB := by
  intro w hw
  obtain ⟨k, hk, rfl⟩ := List.mem_map.mp hw
  have hk := List.mem_range.mp hk
  rcases (show k = 0 ∨ k = 1 ∨ k = 2 ∨ k = 3 ∨ k = 4 ∨ k = 5 ∨ k = 6 ∨ k = 7 ∨ k = 8 ∨ k = 9 ∨ k = 10 ∨ k = 11 ∨ k = 12 ∨ k = 13 ∨ k = 14 ∨ k = 15 ∨ k = 16 ∨ k = 17 ∨ k = 18 ∨ k = 19 ∨ k = 20 ∨ k = 21 ∨ k = 22 ∨ k = 23 ∨ k = 24 ∨ k = 25 by omega) with rfl | rfl | rfl | rfl | rfl | rfl | rfl | rfl | rfl | rfl | rfl | rfl | rfl | rfl | rfl | rfl | rfl | rfl | rfl | rfl | rfl | rfl | rfl | rfl | rfl | rfl
  · exact TB_in (tb5 (List.mem_of_getElem? (i := 75) rfl)) rfl
  · exact TB_in (tb5 (List.mem_of_getElem? (i := 77) rfl)) rfl
  · exact TB_in (tb5 (List.mem_of_getElem? (i := 79) rfl)) rfl
  · exact TB_in (tb5 (List.mem_of_getElem? (i := 81) rfl)) rfl
  · exact TB_in (tb5 (List.mem_of_getElem? (i := 83) rfl)) rfl
  · exact TB_in (tb5 (List.mem_of_getElem? (i := 85) rfl)) rfl
  · exact TB_in (tb5 (List.mem_of_getElem? (i := 87) rfl)) rfl
  · exact TB_in (tb5 (List.mem_of_getElem? (i := 89) rfl)) rfl
  · exact TB_in (tb5 (List.mem_of_getElem? (i := 91) rfl)) rfl
  · exact TB_in (tb5 (List.mem_of_getElem? (i := 93) rfl)) rfl
  · exact TB_in (tb5 (List.mem_of_getElem? (i := 95) rfl)) rfl
  · exact TB_in (tb5 (List.mem_of_getElem? (i := 97) rfl)) rfl
  · exact TB_in (tb5 (List.mem_of_getElem? (i := 99) rfl)) rfl
  · exact TB_in (tb5 (List.mem_of_getElem? (i := 101) rfl)) rfl
  · exact TB_in (tb5 (List.mem_of_getElem? (i := 103) rfl)) rfl
  · exact TB_in (tb5 (List.mem_of_getElem? (i := 105) rfl)) rfl
  · exact TB_in (tb5 (List.mem_of_getElem? (i := 107) rfl)) rfl
  · exact TB_in (tb5 (List.mem_of_getElem? (i := 109) rfl)) rfl
  · exact TB_in (tb5 (List.mem_of_getElem? (i := 111) rfl)) rfl
  · exact TB_in (tb5 (List.mem_of_getElem? (i := 113) rfl)) rfl
  · exact TB_in (tb5 (List.mem_of_getElem? (i := 115) rfl)) rfl
  · exact TB_in (tb5 (List.mem_of_getElem? (i := 117) rfl)) rfl
  · exact TB_in (tb5 (List.mem_of_getElem? (i := 119) rfl)) rfl
  · exact TB_in (tb5 (List.mem_of_getElem? (i := 121) rfl)) rfl
  · exact TB_in (tb5 (List.mem_of_getElem? (i := 123) rfl)) rfl
  · exact TB_in (tb5 (List.mem_of_getElem? (i := 125) rfl)) rfl
theorem in_Jx4a65c : ∀ w ∈ u_ws RJx4a65c TJx4a65c 3, w ∈ TB := by
  intro w hw
  obtain ⟨k, hk, rfl⟩ := List.mem_map.mp hw
  have hk := List.mem_range.mp hk
  rcases (show k = 0 ∨ k = 1 ∨ k = 2 by omega) with rfl | rfl | rfl
  · exact TB_in (tb1 (List.mem_of_getElem? (i := 106) rfl)) rfl
  · exact TB_in (tb1 (List.mem_of_getElem? (i := 102) rfl)) rfl
  · exact TB_in (tb1 (List.mem_of_getElem? (i := 104) rfl)) rfl
end
section
theorem dX7_init_0 : decode cX7_init 0 = .ok (.aload_n 0, 1) := by decide +kernel
theorem dX7_init_1 : decode cX7_init 1 = .ok (.invokespecial 1, 3) := by decide +kernel
theorem dX7_init_4 : decode cX7_init 4 = .ok (.aload_n 0, 1) := by decide +kernel
theorem dX7_init_5 : decode cX7_init 5 = .ok (.bipush 12, 2) := by decide +kernel
theorem dX7_init_7 : decode cX7_init 7 = .ok (.newarray .int, 2) := by decide +kernel
theorem dX7_init_9 : decode cX7_init 9 = .ok (.putfield 7, 3) := by decide +kernel
theorem dX7_init_12 : decode cX7_init 12 = .ok (.aload_n 0, 1) := by decide +kernel
theorem dX7_init_13 : decode cX7_init 13 = .ok (.sipush 3160, 3) := by decide +kernel
theorem dX7_init_16 : decode cX7_init 16 = .ok (.newarray .int, 2) := by decide +kernel
theorem dX7_init_18 : decode cX7_init 18 = .ok (.putfield 13, 3) := by decide +kernel
theorem dX7_init_21 : decode cX7_init 21 = .ok (.aload_n 0, 1) := by decide +kernel
theorem dX7_init_22 : decode cX7_init 22 = .ok (.bipush 6, 2) := by decide +kernel
theorem dX7_init_24 : decode cX7_init 24 = .ok (.newarray .int, 2) := by decide +kernel
theorem dX7_init_26 : decode cX7_init 26 = .ok (.putfield 16, 3) := by decide +kernel
theorem dX7_init_29 : decode cX7_init 29 = .ok (.aload_n 0, 1) := by decide +kernel
theorem dX7_init_30 : decode cX7_init 30 = .ok (.bipush 30, 2) := by decide +kernel
theorem dX7_init_32 : decode cX7_init 32 = .ok (.newarray .int, 2) := by decide +kernel
theorem dX7_init_34 : decode cX7_init 34 = .ok (.putfield 19, 3) := by decide +kernel
theorem dX7_init_37 : decode cX7_init 37 = .ok (.aload_n 0, 1) := by decide +kernel
theorem dX7_init_38 : decode cX7_init 38 = .ok (.bipush 30, 2) := by decide +kernel
theorem dX7_init_40 : decode cX7_init 40 = .ok (.newarray .int, 2) := by decide +kernel
theorem dX7_init_42 : decode cX7_init 42 = .ok (.putfield 22, 3) := by decide +kernel
theorem dX7_init_45 : decode cX7_init 45 = .ok (.aload_n 0, 1) := by decide +kernel
theorem dX7_init_46 : decode cX7_init 46 = .ok (.bipush 30, 2) := by decide +kernel
theorem dX7_init_48 : decode cX7_init 48 = .ok (.newarray .int, 2) := by decide +kernel
theorem dX7_init_50 : decode cX7_init 50 = .ok (.putfield 25, 3) := by decide +kernel
theorem dX7_init_53 : decode cX7_init 53 = .ok (.aload_n 0, 1) := by decide +kernel
theorem dX7_init_54 : decode cX7_init 54 = .ok (.bipush 30, 2) := by decide +kernel
theorem dX7_init_56 : decode cX7_init 56 = .ok (.newarray .int, 2) := by decide +kernel
theorem dX7_init_58 : decode cX7_init 58 = .ok (.putfield 28, 3) := by decide +kernel
theorem dX7_init_61 : decode cX7_init 61 = .ok (.aload_n 0, 1) := by decide +kernel
theorem dX7_init_62 : decode cX7_init 62 = .ok (.bipush 30, 2) := by decide +kernel
theorem dX7_init_64 : decode cX7_init 64 = .ok (.newarray .int, 2) := by decide +kernel
theorem dX7_init_66 : decode cX7_init 66 = .ok (.putfield 31, 3) := by decide +kernel
theorem dX7_init_69 : decode cX7_init 69 = .ok (.aload_n 0, 1) := by decide +kernel
theorem dX7_init_70 : decode cX7_init 70 = .ok (.bipush 30, 2) := by decide +kernel
theorem dX7_init_72 : decode cX7_init 72 = .ok (.newarray .int, 2) := by decide +kernel
theorem dX7_init_74 : decode cX7_init 74 = .ok (.putfield 34, 3) := by decide +kernel
theorem dX7_init_77 : decode cX7_init 77 = .ok (.aload_n 0, 1) := by decide +kernel
theorem dX7_init_78 : decode cX7_init 78 = .ok (.bipush 30, 2) := by decide +kernel
theorem dX7_init_80 : decode cX7_init 80 = .ok (.newarray .int, 2) := by decide +kernel
theorem dX7_init_82 : decode cX7_init 82 = .ok (.putfield 37, 3) := by decide +kernel
theorem dX7_init_85 : decode cX7_init 85 = .ok (.aload_n 0, 1) := by decide +kernel
theorem dX7_init_86 : decode cX7_init 86 = .ok (.bipush 30, 2) := by decide +kernel
theorem dX7_init_88 : decode cX7_init 88 = .ok (.newarray .int, 2) := by decide +kernel
theorem dX7_init_90 : decode cX7_init 90 = .ok (.putfield 40, 3) := by decide +kernel
theorem dX7_init_93 : decode cX7_init 93 = .ok (.aload_n 0, 1) := by decide +kernel
theorem dX7_init_94 : decode cX7_init 94 = .ok (.bipush 30, 2) := by decide +kernel
theorem dX7_init_96 : decode cX7_init 96 = .ok (.newarray .int, 2) := by decide +kernel
theorem dX7_init_98 : decode cX7_init 98 = .ok (.putfield 43, 3) := by decide +kernel
theorem dX7_init_101 : decode cX7_init 101 = .ok (.aload_n 0, 1) := by decide +kernel
theorem dX7_init_102 : decode cX7_init 102 = .ok (.bipush 30, 2) := by decide +kernel
theorem dX7_init_104 : decode cX7_init 104 = .ok (.newarray .int, 2) := by decide +kernel
theorem dX7_init_106 : decode cX7_init 106 = .ok (.putfield 46, 3) := by decide +kernel
theorem dX7_init_109 : decode cX7_init 109 = .ok (.aload_n 0, 1) := by decide +kernel
theorem dX7_init_110 : decode cX7_init 110 = .ok (.bipush 6, 2) := by decide +kernel
theorem dX7_init_112 : decode cX7_init 112 = .ok (.newarray .int, 2) := by decide +kernel
theorem dX7_init_114 : decode cX7_init 114 = .ok (.putfield 49, 3) := by decide +kernel
theorem dX7_init_117 : decode cX7_init 117 = .ok (.aload_n 0, 1) := by decide +kernel
theorem dX7_init_118 : decode cX7_init 118 = .ok (.bipush 6, 2) := by decide +kernel
theorem dX7_init_120 : decode cX7_init 120 = .ok (.newarray .int, 2) := by decide +kernel
theorem dX7_init_122 : decode cX7_init 122 = .ok (.putfield 52, 3) := by decide +kernel
theorem dX7_init_125 : decode cX7_init 125 = .ok (.aload_n 0, 1) := by decide +kernel
theorem dX7_init_126 : decode cX7_init 126 = .ok (.bipush 100, 2) := by decide +kernel
theorem dX7_init_128 : decode cX7_init 128 = .ok (.newarray .int, 2) := by decide +kernel
theorem dX7_init_130 : decode cX7_init 130 = .ok (.putfield 55, 3) := by decide +kernel
theorem dX7_init_133 : decode cX7_init 133 = .ok (.aload_n 0, 1) := by decide +kernel
theorem dX7_init_134 : decode cX7_init 134 = .ok (.bipush 100, 2) := by decide +kernel
theorem dX7_init_136 : decode cX7_init 136 = .ok (.newarray .int, 2) := by decide +kernel
theorem dX7_init_138 : decode cX7_init 138 = .ok (.putfield 58, 3) := by decide +kernel
theorem dX7_init_141 : decode cX7_init 141 = .ok (.aload_n 0, 1) := by decide +kernel
theorem dX7_init_142 : decode cX7_init 142 = .ok (.bipush 100, 2) := by decide +kernel
theorem dX7_init_144 : decode cX7_init 144 = .ok (.newarray .int, 2) := by decide +kernel
theorem dX7_init_146 : decode cX7_init 146 = .ok (.putfield 61, 3) := by decide +kernel
theorem dX7_init_149 : decode cX7_init 149 = .ok (.aload_n 0, 1) := by decide +kernel
theorem dX7_init_150 : decode cX7_init 150 = .ok (.bipush 100, 2) := by decide +kernel
theorem dX7_init_152 : decode cX7_init 152 = .ok (.newarray .int, 2) := by decide +kernel
theorem dX7_init_154 : decode cX7_init 154 = .ok (.putfield 64, 3) := by decide +kernel
theorem dX7_init_157 : decode cX7_init 157 = .ok (.aload_n 0, 1) := by decide +kernel
theorem dX7_init_158 : decode cX7_init 158 = .ok (.bipush 100, 2) := by decide +kernel
theorem dX7_init_160 : decode cX7_init 160 = .ok (.newarray .boolean, 2) := by decide +kernel
theorem dX7_init_162 : decode cX7_init 162 = .ok (.putfield 67, 3) := by decide +kernel
theorem dX7_init_165 : decode cX7_init 165 = .ok (.iconst 0, 1) := by decide +kernel
theorem dX7_init_166 : decode cX7_init 166 = .ok (.istore_n 1, 1) := by decide +kernel
theorem dX7_init_167 : decode cX7_init 167 = .ok (.iload_n 1, 1) := by decide +kernel
theorem dX7_init_168 : decode cX7_init 168 = .ok (.bipush 12, 2) := by decide +kernel
theorem dX7_init_170 : decode cX7_init 170 = .ok (.if_icmp .ge 17, 3) := by decide +kernel
theorem dX7_init_173 : decode cX7_init 173 = .ok (.aload_n 0, 1) := by decide +kernel
theorem dX7_init_174 : decode cX7_init 174 = .ok (.getfield 7, 3) := by decide +kernel
theorem dX7_init_177 : decode cX7_init 177 = .ok (.iload_n 1, 1) := by decide +kernel
theorem dX7_init_178 : decode cX7_init 178 = .ok (.bipush 50, 2) := by decide +kernel
theorem dX7_init_180 : decode cX7_init 180 = .ok (.iastore, 1) := by decide +kernel
theorem dX7_init_181 : decode cX7_init 181 = .ok (.iinc 1 1, 3) := by decide +kernel
theorem dX7_init_184 : decode cX7_init 184 = .ok (.goto (-17), 3) := by decide +kernel
theorem dX7_init_187 : decode cX7_init 187 = .ok (.iconst 0, 1) := by decide +kernel
theorem dX7_init_188 : decode cX7_init 188 = .ok (.istore_n 1, 1) := by decide +kernel
theorem dX7_init_189 : decode cX7_init 189 = .ok (.iload_n 1, 1) := by decide +kernel
theorem dX7_init_190 : decode cX7_init 190 = .ok (.bipush 6, 2) := by decide +kernel
theorem dX7_init_192 : decode cX7_init 192 = .ok (.if_icmp .ge 24, 3) := by decide +kernel
theorem dX7_init_195 : decode cX7_init 195 = .ok (.aload_n 0, 1) := by decide +kernel
theorem dX7_init_196 : decode cX7_init 196 = .ok (.getfield 16, 3) := by decide +kernel
theorem dX7_init_199 : decode cX7_init 199 = .ok (.iload_n 1, 1) := by decide +kernel
theorem dX7_init_200 : decode cX7_init 200 = .ok (.bipush 60, 2) := by decide +kernel
theorem dX7_init_202 : decode cX7_init 202 = .ok (.iastore, 1) := by decide +kernel
theorem dX7_init_203 : decode cX7_init 203 = .ok (.aload_n 0, 1) := by decide +kernel
theorem dX7_init_204 : decode cX7_init 204 = .ok (.getfield 49, 3) := by decide +kernel
theorem dX7_init_207 : decode cX7_init 207 = .ok (.iload_n 1, 1) := by decide +kernel
theorem dX7_init_208 : decode cX7_init 208 = .ok (.iload_n 1, 1) := by decide +kernel
theorem dX7_init_209 : decode cX7_init 209 = .ok (.iastore, 1) := by decide +kernel
theorem dX7_init_210 : decode cX7_init 210 = .ok (.iinc 1 1, 3) := by decide +kernel
theorem dX7_init_213 : decode cX7_init 213 = .ok (.goto (-24), 3) := by decide +kernel
theorem dX7_init_216 : decode cX7_init 216 = .ok (.return_, 1) := by decide +kernel
theorem dX7_thrown_0 : decode cX7_thrown 0 = .ok (.aload_n 0, 1) := by decide +kernel
theorem dX7_thrown_1 : decode cX7_thrown 1 = .ok (.getfield 71, 3) := by decide +kernel
theorem dX7_thrown_4 : decode cX7_thrown 4 = .ok (.ireturn, 1) := by decide +kernel
theorem dX7_holds_0 : decode cX7_holds 0 = .ok (.aload_n 0, 1) := by decide +kernel
theorem dX7_holds_1 : decode cX7_holds 1 = .ok (.iload_n 1, 1) := by decide +kernel
theorem dX7_holds_2 : decode cX7_holds 2 = .ok (.putfield 71, 3) := by decide +kernel
theorem dX7_holds_5 : decode cX7_holds 5 = .ok (.iload_n 1, 1) := by decide +kernel
theorem dX7_holds_6 : decode cX7_holds 6 = .ok (.ifCond .ne 7, 3) := by decide +kernel
theorem dX7_holds_9 : decode cX7_holds 9 = .ok (.iconst 1, 1) := by decide +kernel
theorem dX7_holds_10 : decode cX7_holds 10 = .ok (.goto 4, 3) := by decide +kernel
theorem dX7_holds_13 : decode cX7_holds 13 = .ok (.iconst 0, 1) := by decide +kernel
theorem dX7_holds_14 : decode cX7_holds 14 = .ok (.ireturn, 1) := by decide +kernel
theorem dX7_isIn_0 : decode cX7_isIn 0 = .ok (.iload_n 0, 1) := by decide +kernel
theorem dX7_isIn_1 : decode cX7_isIn 1 = .ok (.iload_n 1, 1) := by decide +kernel
theorem dX7_isIn_2 : decode cX7_isIn 2 = .ok (.if_icmp .lt 12, 3) := by decide +kernel
theorem dX7_isIn_5 : decode cX7_isIn 5 = .ok (.iload_n 0, 1) := by decide +kernel
theorem dX7_isIn_6 : decode cX7_isIn 6 = .ok (.iload_n 2, 1) := by decide +kernel
theorem dX7_isIn_7 : decode cX7_isIn 7 = .ok (.if_icmp .gt 7, 3) := by decide +kernel
theorem dX7_isIn_10 : decode cX7_isIn 10 = .ok (.iconst 1, 1) := by decide +kernel
theorem dX7_isIn_11 : decode cX7_isIn 11 = .ok (.goto 4, 3) := by decide +kernel
theorem dX7_isIn_14 : decode cX7_isIn 14 = .ok (.iconst 0, 1) := by decide +kernel
theorem dX7_isIn_15 : decode cX7_isIn 15 = .ok (.ireturn, 1) := by decide +kernel
theorem dX7_isShip_0 : decode cX7_isShip 0 = .ok (.iload_n 1, 1) := by decide +kernel
theorem dX7_isShip_1 : decode cX7_isShip 1 = .ok (.iconst 0, 1) := by decide +kernel
theorem dX7_isShip_2 : decode cX7_isShip 2 = .ok (.aload_n 0, 1) := by decide +kernel
theorem dX7_isShip_3 : decode cX7_isShip 3 = .ok (.getfield 75, 3) := by decide +kernel
theorem dX7_isShip_6 : decode cX7_isShip 6 = .ok (.iconst 1, 1) := by decide +kernel
theorem dX7_isShip_7 : decode cX7_isShip 7 = .ok (.isub, 1) := by decide +kernel
theorem dX7_isShip_8 : decode cX7_isShip 8 = .ok (.invokestatic 78, 3) := by decide +kernel
theorem dX7_isShip_11 : decode cX7_isShip 11 = .ok (.ireturn, 1) := by decide +kernel
theorem dX7_isMove_0 : decode cX7_isMove 0 = .ok (.iload_n 1, 1) := by decide +kernel
theorem dX7_isMove_1 : decode cX7_isMove 1 = .ok (.iconst 0, 1) := by decide +kernel
theorem dX7_isMove_2 : decode cX7_isMove 2 = .ok (.aload_n 0, 1) := by decide +kernel
theorem dX7_isMove_3 : decode cX7_isMove 3 = .ok (.getfield 82, 3) := by decide +kernel
theorem dX7_isMove_6 : decode cX7_isMove 6 = .ok (.iconst 1, 1) := by decide +kernel
theorem dX7_isMove_7 : decode cX7_isMove 7 = .ok (.isub, 1) := by decide +kernel
theorem dX7_isMove_8 : decode cX7_isMove 8 = .ok (.invokestatic 78, 3) := by decide +kernel
theorem dX7_isMove_11 : decode cX7_isMove 11 = .ok (.ireturn, 1) := by decide +kernel
theorem dX7_depthOf_0 : decode cX7_depthOf 0 = .ok (.aload_n 0, 1) := by decide +kernel
theorem dX7_depthOf_1 : decode cX7_depthOf 1 = .ok (.getfield 7, 3) := by decide +kernel
theorem dX7_depthOf_4 : decode cX7_depthOf 4 = .ok (.iload_n 1, 1) := by decide +kernel
theorem dX7_depthOf_5 : decode cX7_depthOf 5 = .ok (.bipush 12, 2) := by decide +kernel
theorem dX7_depthOf_7 : decode cX7_depthOf 7 = .ok (.irem, 1) := by decide +kernel
theorem dX7_depthOf_8 : decode cX7_depthOf 8 = .ok (.iaload, 1) := by decide +kernel
theorem dX7_depthOf_9 : decode cX7_depthOf 9 = .ok (.aload_n 0, 1) := by decide +kernel
theorem dX7_depthOf_10 : decode cX7_depthOf 10 = .ok (.getfield 13, 3) := by decide +kernel
theorem dX7_depthOf_13 : decode cX7_depthOf 13 = .ok (.iload_n 1, 1) := by decide +kernel
theorem dX7_depthOf_14 : decode cX7_depthOf 14 = .ok (.iaload, 1) := by decide +kernel
theorem dX7_depthOf_15 : decode cX7_depthOf 15 = .ok (.iadd, 1) := by decide +kernel
theorem dX7_depthOf_16 : decode cX7_depthOf 16 = .ok (.ireturn, 1) := by decide +kernel
theorem dX7_table_0 : decode cX7_table 0 = .ok (.aload_n 0, 1) := by decide +kernel
theorem dX7_table_1 : decode cX7_table 1 = .ok (.iload_n 1, 1) := by decide +kernel
theorem dX7_table_2 : decode cX7_table 2 = .ok (.iconst 0, 1) := by decide +kernel
theorem dX7_table_3 : decode cX7_table 3 = .ok (.bipush 11, 2) := by decide +kernel
theorem dX7_table_5 : decode cX7_table 5 = .ok (.invokestatic 78, 3) := by decide +kernel
theorem dX7_table_8 : decode cX7_table 8 = .ok (.ifCond .ne 7, 3) := by decide +kernel
theorem dX7_table_11 : decode cX7_table 11 = .ok (.iconst 1, 1) := by decide +kernel
theorem dX7_table_12 : decode cX7_table 12 = .ok (.goto 30, 3) := by decide +kernel
theorem dX7_table_15 : decode cX7_table 15 = .ok (.iload_n 2, 1) := by decide +kernel
theorem dX7_table_16 : decode cX7_table 16 = .ok (.iconst 0, 1) := by decide +kernel
theorem dX7_table_17 : decode cX7_table 17 = .ok (.sipush 150, 3) := by decide +kernel
theorem dX7_table_20 : decode cX7_table 20 = .ok (.invokestatic 78, 3) := by decide +kernel
theorem dX7_table_23 : decode cX7_table 23 = .ok (.ifCond .ne 7, 3) := by decide +kernel
theorem dX7_table_26 : decode cX7_table 26 = .ok (.iconst 2, 1) := by decide +kernel
theorem dX7_table_27 : decode cX7_table 27 = .ok (.goto 15, 3) := by decide +kernel
theorem dX7_table_30 : decode cX7_table 30 = .ok (.aload_n 0, 1) := by decide +kernel
theorem dX7_table_31 : decode cX7_table 31 = .ok (.getfield 82, 3) := by decide +kernel
theorem dX7_table_34 : decode cX7_table 34 = .ok (.ifCond .le 7, 3) := by decide +kernel
theorem dX7_table_37 : decode cX7_table 37 = .ok (.iconst 3, 1) := by decide +kernel
theorem dX7_table_38 : decode cX7_table 38 = .ok (.goto 4, 3) := by decide +kernel
theorem dX7_table_41 : decode cX7_table 41 = .ok (.iconst 0, 1) := by decide +kernel
theorem dX7_table_42 : decode cX7_table 42 = .ok (.invokevirtual 85, 3) := by decide +kernel
theorem dX7_table_45 : decode cX7_table 45 = .ok (.ifCond .ne 5, 3) := by decide +kernel
theorem dX7_table_48 : decode cX7_table 48 = .ok (.iconst 0, 1) := by decide +kernel
theorem dX7_table_49 : decode cX7_table 49 = .ok (.ireturn, 1) := by decide +kernel
theorem dX7_table_50 : decode cX7_table 50 = .ok (.aload_n 0, 1) := by decide +kernel
theorem dX7_table_51 : decode cX7_table 51 = .ok (.getfield 7, 3) := by decide +kernel
theorem dX7_table_54 : decode cX7_table 54 = .ok (.iload_n 1, 1) := by decide +kernel
theorem dX7_table_55 : decode cX7_table 55 = .ok (.iaload, 1) := by decide +kernel
theorem dX7_table_56 : decode cX7_table 56 = .ok (.istore_n 3, 1) := by decide +kernel
theorem dX7_table_57 : decode cX7_table 57 = .ok (.aload_n 0, 1) := by decide +kernel
theorem dX7_table_58 : decode cX7_table 58 = .ok (.getfield 7, 3) := by decide +kernel
theorem dX7_table_61 : decode cX7_table 61 = .ok (.iload_n 1, 1) := by decide +kernel
theorem dX7_table_62 : decode cX7_table 62 = .ok (.iload_n 2, 1) := by decide +kernel
theorem dX7_table_63 : decode cX7_table 63 = .ok (.iastore, 1) := by decide +kernel
theorem dX7_table_64 : decode cX7_table 64 = .ok (.iload_n 3, 1) := by decide +kernel
theorem dX7_table_65 : decode cX7_table 65 = .ok (.ireturn, 1) := by decide +kernel
theorem dX7_wind_0 : decode cX7_wind 0 = .ok (.aload_n 0, 1) := by decide +kernel
theorem dX7_wind_1 : decode cX7_wind 1 = .ok (.iload_n 1, 1) := by decide +kernel
theorem dX7_wind_2 : decode cX7_wind 2 = .ok (.aload_n 0, 1) := by decide +kernel
theorem dX7_wind_3 : decode cX7_wind 3 = .ok (.getfield 89, 3) := by decide +kernel
theorem dX7_wind_6 : decode cX7_wind 6 = .ok (.iconst 3, 1) := by decide +kernel
theorem dX7_wind_7 : decode cX7_wind 7 = .ok (.iadd, 1) := by decide +kernel
theorem dX7_wind_8 : decode cX7_wind 8 = .ok (.sipush 3100, 3) := by decide +kernel
theorem dX7_wind_11 : decode cX7_wind 11 = .ok (.invokestatic 78, 3) := by decide +kernel
theorem dX7_wind_14 : decode cX7_wind 14 = .ok (.ifCond .eq 28, 3) := by decide +kernel
theorem dX7_wind_17 : decode cX7_wind 17 = .ok (.iload_n 2, 1) := by decide +kernel
theorem dX7_wind_18 : decode cX7_wind 18 = .ok (.iconst 1, 1) := by decide +kernel
theorem dX7_wind_19 : decode cX7_wind 19 = .ok (.bipush 48, 2) := by decide +kernel
theorem dX7_wind_21 : decode cX7_wind 21 = .ok (.invokestatic 78, 3) := by decide +kernel
theorem dX7_wind_24 : decode cX7_wind 24 = .ok (.ifCond .eq 18, 3) := by decide +kernel
theorem dX7_wind_27 : decode cX7_wind 27 = .ok (.iload_n 3, 1) := by decide +kernel
theorem dX7_wind_28 : decode cX7_wind 28 = .ok (.bipush (-40), 2) := by decide +kernel
theorem dX7_wind_30 : decode cX7_wind 30 = .ok (.bipush 40, 2) := by decide +kernel
theorem dX7_wind_32 : decode cX7_wind 32 = .ok (.invokestatic 78, 3) := by decide +kernel
theorem dX7_wind_35 : decode cX7_wind 35 = .ok (.ifCond .eq 7, 3) := by decide +kernel
theorem dX7_wind_38 : decode cX7_wind 38 = .ok (.iconst 0, 1) := by decide +kernel
theorem dX7_wind_39 : decode cX7_wind 39 = .ok (.goto 4, 3) := by decide +kernel
theorem dX7_wind_42 : decode cX7_wind 42 = .ok (.iconst 1, 1) := by decide +kernel
theorem dX7_wind_43 : decode cX7_wind 43 = .ok (.invokevirtual 85, 3) := by decide +kernel
theorem dX7_wind_46 : decode cX7_wind 46 = .ok (.ifCond .ne 5, 3) := by decide +kernel
theorem dX7_wind_49 : decode cX7_wind 49 = .ok (.iconst 0, 1) := by decide +kernel
theorem dX7_wind_50 : decode cX7_wind 50 = .ok (.ireturn, 1) := by decide +kernel
theorem dX7_wind_51 : decode cX7_wind 51 = .ok (.aload_n 0, 1) := by decide +kernel
theorem dX7_wind_52 : decode cX7_wind 52 = .ok (.getfield 13, 3) := by decide +kernel
theorem dX7_wind_55 : decode cX7_wind 55 = .ok (.iload_n 1, 1) := by decide +kernel
theorem dX7_wind_56 : decode cX7_wind 56 = .ok (.iaload, 1) := by decide +kernel
theorem dX7_wind_57 : decode cX7_wind 57 = .ok (.istore 4, 2) := by decide +kernel
theorem dX7_wind_59 : decode cX7_wind 59 = .ok (.iload_n 1, 1) := by decide +kernel
theorem dX7_wind_60 : decode cX7_wind 60 = .ok (.istore 5, 2) := by decide +kernel
theorem dX7_wind_62 : decode cX7_wind 62 = .ok (.iload 5, 2) := by decide +kernel
theorem dX7_wind_64 : decode cX7_wind 64 = .ok (.iload_n 1, 1) := by decide +kernel
theorem dX7_wind_65 : decode cX7_wind 65 = .ok (.iload_n 2, 1) := by decide +kernel
theorem dX7_wind_66 : decode cX7_wind 66 = .ok (.iadd, 1) := by decide +kernel
theorem dX7_wind_67 : decode cX7_wind 67 = .ok (.if_icmp .ge 17, 3) := by decide +kernel
theorem dX7_wind_70 : decode cX7_wind 70 = .ok (.aload_n 0, 1) := by decide +kernel
theorem dX7_wind_71 : decode cX7_wind 71 = .ok (.getfield 13, 3) := by decide +kernel
theorem dX7_wind_74 : decode cX7_wind 74 = .ok (.iload 5, 2) := by decide +kernel
theorem dX7_wind_76 : decode cX7_wind 76 = .ok (.iload_n 3, 1) := by decide +kernel
theorem dX7_wind_77 : decode cX7_wind 77 = .ok (.iastore, 1) := by decide +kernel
theorem dX7_wind_78 : decode cX7_wind 78 = .ok (.iinc 5 1, 3) := by decide +kernel
theorem dX7_wind_81 : decode cX7_wind 81 = .ok (.goto (-19), 3) := by decide +kernel
theorem dX7_wind_84 : decode cX7_wind 84 = .ok (.iload 4, 2) := by decide +kernel
theorem dX7_wind_86 : decode cX7_wind 86 = .ok (.ireturn, 1) := by decide +kernel
theorem dX7_depth_0 : decode cX7_depth 0 = .ok (.aload_n 0, 1) := by decide +kernel
theorem dX7_depth_1 : decode cX7_depth 1 = .ok (.iload_n 1, 1) := by decide +kernel
theorem dX7_depth_2 : decode cX7_depth 2 = .ok (.iconst 0, 1) := by decide +kernel
theorem dX7_depth_3 : decode cX7_depth 3 = .ok (.sipush 3100, 3) := by decide +kernel
theorem dX7_depth_6 : decode cX7_depth 6 = .ok (.invokestatic 78, 3) := by decide +kernel
theorem dX7_depth_9 : decode cX7_depth 9 = .ok (.ifCond .eq 7, 3) := by decide +kernel
theorem dX7_depth_12 : decode cX7_depth 12 = .ok (.iconst 0, 1) := by decide +kernel
theorem dX7_depth_13 : decode cX7_depth 13 = .ok (.goto 4, 3) := by decide +kernel
theorem dX7_depth_16 : decode cX7_depth 16 = .ok (.iconst 1, 1) := by decide +kernel
theorem dX7_depth_17 : decode cX7_depth 17 = .ok (.invokevirtual 85, 3) := by decide +kernel
theorem dX7_depth_20 : decode cX7_depth 20 = .ok (.ifCond .eq 11, 3) := by decide +kernel
theorem dX7_depth_23 : decode cX7_depth 23 = .ok (.aload_n 0, 1) := by decide +kernel
theorem dX7_depth_24 : decode cX7_depth 24 = .ok (.iload_n 1, 1) := by decide +kernel
theorem dX7_depth_25 : decode cX7_depth 25 = .ok (.invokevirtual 92, 3) := by decide +kernel
theorem dX7_depth_28 : decode cX7_depth 28 = .ok (.goto 4, 3) := by decide +kernel
theorem dX7_depth_31 : decode cX7_depth 31 = .ok (.iconst 0, 1) := by decide +kernel
theorem dX7_depth_32 : decode cX7_depth 32 = .ok (.ireturn, 1) := by decide +kernel
theorem dX7_wasUsed_0 : decode cX7_wasUsed 0 = .ok (.iconst 0, 1) := by decide +kernel
theorem dX7_wasUsed_1 : decode cX7_wasUsed 1 = .ok (.istore_n 2, 1) := by decide +kernel
theorem dX7_wasUsed_2 : decode cX7_wasUsed 2 = .ok (.iconst 0, 1) := by decide +kernel
theorem dX7_wasUsed_3 : decode cX7_wasUsed 3 = .ok (.istore_n 3, 1) := by decide +kernel
theorem dX7_wasUsed_4 : decode cX7_wasUsed 4 = .ok (.iload_n 3, 1) := by decide +kernel
theorem dX7_wasUsed_5 : decode cX7_wasUsed 5 = .ok (.aload_n 0, 1) := by decide +kernel
theorem dX7_wasUsed_6 : decode cX7_wasUsed 6 = .ok (.getfield 82, 3) := by decide +kernel
theorem dX7_wasUsed_9 : decode cX7_wasUsed 9 = .ok (.if_icmp .ge 34, 3) := by decide +kernel
theorem dX7_wasUsed_12 : decode cX7_wasUsed 12 = .ok (.iload_n 2, 1) := by decide +kernel
theorem dX7_wasUsed_13 : decode cX7_wasUsed 13 = .ok (.ifCond .ne 18, 3) := by decide +kernel
theorem dX7_wasUsed_16 : decode cX7_wasUsed 16 = .ok (.aload_n 0, 1) := by decide +kernel
theorem dX7_wasUsed_17 : decode cX7_wasUsed 17 = .ok (.getfield 28, 3) := by decide +kernel
theorem dX7_wasUsed_20 : decode cX7_wasUsed 20 = .ok (.aload_n 0, 1) := by decide +kernel
theorem dX7_wasUsed_21 : decode cX7_wasUsed 21 = .ok (.getfield 58, 3) := by decide +kernel
theorem dX7_wasUsed_24 : decode cX7_wasUsed 24 = .ok (.iload_n 3, 1) := by decide +kernel
theorem dX7_wasUsed_25 : decode cX7_wasUsed 25 = .ok (.iaload, 1) := by decide +kernel
theorem dX7_wasUsed_26 : decode cX7_wasUsed 26 = .ok (.iaload, 1) := by decide +kernel
theorem dX7_wasUsed_27 : decode cX7_wasUsed 27 = .ok (.iload_n 1, 1) := by decide +kernel
theorem dX7_wasUsed_28 : decode cX7_wasUsed 28 = .ok (.if_icmp .ne 7, 3) := by decide +kernel
theorem dX7_wasUsed_31 : decode cX7_wasUsed 31 = .ok (.iconst 1, 1) := by decide +kernel
theorem dX7_wasUsed_32 : decode cX7_wasUsed 32 = .ok (.goto 4, 3) := by decide +kernel
theorem dX7_wasUsed_35 : decode cX7_wasUsed 35 = .ok (.iconst 0, 1) := by decide +kernel
theorem dX7_wasUsed_36 : decode cX7_wasUsed 36 = .ok (.istore_n 2, 1) := by decide +kernel
theorem dX7_wasUsed_37 : decode cX7_wasUsed 37 = .ok (.iinc 3 1, 3) := by decide +kernel
theorem dX7_wasUsed_40 : decode cX7_wasUsed 40 = .ok (.goto (-36), 3) := by decide +kernel
theorem dX7_wasUsed_43 : decode cX7_wasUsed 43 = .ok (.iload_n 2, 1) := by decide +kernel
theorem dX7_wasUsed_44 : decode cX7_wasUsed 44 = .ok (.ireturn, 1) := by decide +kernel
theorem dX7_berth_0 : decode cX7_berth 0 = .ok (.aload_n 0, 1) := by decide +kernel
theorem dX7_berth_1 : decode cX7_berth 1 = .ok (.iload_n 1, 1) := by decide +kernel
theorem dX7_berth_2 : decode cX7_berth 2 = .ok (.iconst 0, 1) := by decide +kernel
theorem dX7_berth_3 : decode cX7_berth 3 = .ok (.iconst 5, 1) := by decide +kernel
theorem dX7_berth_4 : decode cX7_berth 4 = .ok (.invokestatic 78, 3) := by decide +kernel
theorem dX7_berth_7 : decode cX7_berth 7 = .ok (.ifCond .ne 7, 3) := by decide +kernel
theorem dX7_berth_10 : decode cX7_berth 10 = .ok (.iconst 1, 1) := by decide +kernel
theorem dX7_berth_11 : decode cX7_berth 11 = .ok (.goto 31, 3) := by decide +kernel
theorem dX7_berth_14 : decode cX7_berth 14 = .ok (.iload_n 2, 1) := by decide +kernel
theorem dX7_berth_15 : decode cX7_berth 15 = .ok (.iconst 0, 1) := by decide +kernel
theorem dX7_berth_16 : decode cX7_berth 16 = .ok (.sipush 200, 3) := by decide +kernel
theorem dX7_berth_19 : decode cX7_berth 19 = .ok (.invokestatic 78, 3) := by decide +kernel
theorem dX7_berth_22 : decode cX7_berth 22 = .ok (.ifCond .ne 7, 3) := by decide +kernel
theorem dX7_berth_25 : decode cX7_berth 25 = .ok (.iconst 2, 1) := by decide +kernel
theorem dX7_berth_26 : decode cX7_berth 26 = .ok (.goto 16, 3) := by decide +kernel
theorem dX7_berth_29 : decode cX7_berth 29 = .ok (.aload_n 0, 1) := by decide +kernel
theorem dX7_berth_30 : decode cX7_berth 30 = .ok (.iload_n 1, 1) := by decide +kernel
theorem dX7_berth_31 : decode cX7_berth 31 = .ok (.invokevirtual 96, 3) := by decide +kernel
theorem dX7_berth_34 : decode cX7_berth 34 = .ok (.ifCond .eq 7, 3) := by decide +kernel
theorem dX7_berth_37 : decode cX7_berth 37 = .ok (.iconst 3, 1) := by decide +kernel
theorem dX7_berth_38 : decode cX7_berth 38 = .ok (.goto 4, 3) := by decide +kernel
theorem dX7_berth_41 : decode cX7_berth 41 = .ok (.iconst 0, 1) := by decide +kernel
theorem dX7_berth_42 : decode cX7_berth 42 = .ok (.invokevirtual 85, 3) := by decide +kernel
theorem dX7_berth_45 : decode cX7_berth 45 = .ok (.ifCond .ne 5, 3) := by decide +kernel
theorem dX7_berth_48 : decode cX7_berth 48 = .ok (.iconst 0, 1) := by decide +kernel
theorem dX7_berth_49 : decode cX7_berth 49 = .ok (.ireturn, 1) := by decide +kernel
theorem dX7_berth_50 : decode cX7_berth 50 = .ok (.aload_n 0, 1) := by decide +kernel
theorem dX7_berth_51 : decode cX7_berth 51 = .ok (.getfield 16, 3) := by decide +kernel
theorem dX7_berth_54 : decode cX7_berth 54 = .ok (.iload_n 1, 1) := by decide +kernel
theorem dX7_berth_55 : decode cX7_berth 55 = .ok (.iaload, 1) := by decide +kernel
theorem dX7_berth_56 : decode cX7_berth 56 = .ok (.istore_n 3, 1) := by decide +kernel
theorem dX7_berth_57 : decode cX7_berth 57 = .ok (.aload_n 0, 1) := by decide +kernel
theorem dX7_berth_58 : decode cX7_berth 58 = .ok (.getfield 16, 3) := by decide +kernel
theorem dX7_berth_61 : decode cX7_berth 61 = .ok (.iload_n 1, 1) := by decide +kernel
theorem dX7_berth_62 : decode cX7_berth 62 = .ok (.iload_n 2, 1) := by decide +kernel
theorem dX7_berth_63 : decode cX7_berth 63 = .ok (.iastore, 1) := by decide +kernel
theorem dX7_berth_64 : decode cX7_berth 64 = .ok (.iload_n 3, 1) := by decide +kernel
theorem dX7_berth_65 : decode cX7_berth 65 = .ok (.ireturn, 1) := by decide +kernel
theorem dX7_floats_0 : decode cX7_floats 0 = .ok (.aload_n 0, 1) := by decide +kernel
theorem dX7_floats_1 : decode cX7_floats 1 = .ok (.getfield 31, 3) := by decide +kernel
theorem dX7_floats_4 : decode cX7_floats 4 = .ok (.iload_n 1, 1) := by decide +kernel
theorem dX7_floats_5 : decode cX7_floats 5 = .ok (.iaload, 1) := by decide +kernel
theorem dX7_floats_6 : decode cX7_floats 6 = .ok (.ifCond .ne 8, 3) := by decide +kernel
theorem dX7_floats_9 : decode cX7_floats 9 = .ok (.bipush 30, 2) := by decide +kernel
theorem dX7_floats_11 : decode cX7_floats 11 = .ok (.goto 14, 3) := by decide +kernel
theorem dX7_floats_14 : decode cX7_floats 14 = .ok (.aload_n 0, 1) := by decide +kernel
theorem dX7_floats_15 : decode cX7_floats 15 = .ok (.getfield 16, 3) := by decide +kernel
theorem dX7_floats_18 : decode cX7_floats 18 = .ok (.aload_n 0, 1) := by decide +kernel
theorem dX7_floats_19 : decode cX7_floats 19 = .ok (.getfield 28, 3) := by decide +kernel
theorem dX7_floats_22 : decode cX7_floats 22 = .ok (.iload_n 1, 1) := by decide +kernel
theorem dX7_floats_23 : decode cX7_floats 23 = .ok (.iaload, 1) := by decide +kernel
theorem dX7_floats_24 : decode cX7_floats 24 = .ok (.iaload, 1) := by decide +kernel
theorem dX7_floats_25 : decode cX7_floats 25 = .ok (.istore_n 3, 1) := by decide +kernel
theorem dX7_floats_26 : decode cX7_floats 26 = .ok (.aload_n 0, 1) := by decide +kernel
theorem dX7_floats_27 : decode cX7_floats 27 = .ok (.getfield 31, 3) := by decide +kernel
theorem dX7_floats_30 : decode cX7_floats 30 = .ok (.iload_n 1, 1) := by decide +kernel
theorem dX7_floats_31 : decode cX7_floats 31 = .ok (.iaload, 1) := by decide +kernel
theorem dX7_floats_32 : decode cX7_floats 32 = .ok (.ifCond .ne 17, 3) := by decide +kernel
theorem dX7_floats_35 : decode cX7_floats 35 = .ok (.aload_n 0, 1) := by decide +kernel
theorem dX7_floats_36 : decode cX7_floats 36 = .ok (.getfield 16, 3) := by decide +kernel
theorem dX7_floats_39 : decode cX7_floats 39 = .ok (.aload_n 0, 1) := by decide +kernel
theorem dX7_floats_40 : decode cX7_floats 40 = .ok (.getfield 28, 3) := by decide +kernel
theorem dX7_floats_43 : decode cX7_floats 43 = .ok (.iload_n 1, 1) := by decide +kernel
theorem dX7_floats_44 : decode cX7_floats 44 = .ok (.iaload, 1) := by decide +kernel
theorem dX7_floats_45 : decode cX7_floats 45 = .ok (.iaload, 1) := by decide +kernel
theorem dX7_floats_46 : decode cX7_floats 46 = .ok (.goto 5, 3) := by decide +kernel
theorem dX7_floats_49 : decode cX7_floats 49 = .ok (.bipush 30, 2) := by decide +kernel
theorem dX7_floats_51 : decode cX7_floats 51 = .ok (.istore 4, 2) := by decide +kernel
theorem dX7_floats_53 : decode cX7_floats 53 = .ok (.aload_n 0, 1) := by decide +kernel
theorem dX7_floats_54 : decode cX7_floats 54 = .ok (.getfield 22, 3) := by decide +kernel
theorem dX7_floats_57 : decode cX7_floats 57 = .ok (.iload_n 1, 1) := by decide +kernel
theorem dX7_floats_58 : decode cX7_floats 58 = .ok (.iaload, 1) := by decide +kernel
theorem dX7_floats_59 : decode cX7_floats 59 = .ok (.iconst 5, 1) := by decide +kernel
theorem dX7_floats_60 : decode cX7_floats 60 = .ok (.iadd, 1) := by decide +kernel
theorem dX7_floats_61 : decode cX7_floats 61 = .ok (.istore 5, 2) := by decide +kernel
theorem dX7_floats_63 : decode cX7_floats 63 = .ok (.aload_n 0, 1) := by decide +kernel
theorem dX7_floats_64 : decode cX7_floats 64 = .ok (.getfield 31, 3) := by decide +kernel
theorem dX7_floats_67 : decode cX7_floats 67 = .ok (.iload_n 1, 1) := by decide +kernel
theorem dX7_floats_68 : decode cX7_floats 68 = .ok (.iaload, 1) := by decide +kernel
theorem dX7_floats_69 : decode cX7_floats 69 = .ok (.ifCond .eq 13, 3) := by decide +kernel
theorem dX7_floats_72 : decode cX7_floats 72 = .ok (.aload_n 0, 1) := by decide +kernel
theorem dX7_floats_73 : decode cX7_floats 73 = .ok (.getfield 31, 3) := by decide +kernel
theorem dX7_floats_76 : decode cX7_floats 76 = .ok (.iload_n 1, 1) := by decide +kernel
theorem dX7_floats_77 : decode cX7_floats 77 = .ok (.iaload, 1) := by decide +kernel
theorem dX7_floats_78 : decode cX7_floats 78 = .ok (.iconst 2, 1) := by decide +kernel
theorem dX7_floats_79 : decode cX7_floats 79 = .ok (.if_icmp .ne 7, 3) := by decide +kernel
theorem dX7_floats_82 : decode cX7_floats 82 = .ok (.iconst 1, 1) := by decide +kernel
theorem dX7_floats_83 : decode cX7_floats 83 = .ok (.goto 4, 3) := by decide +kernel
theorem dX7_floats_86 : decode cX7_floats 86 = .ok (.iconst 0, 1) := by decide +kernel
theorem dX7_floats_87 : decode cX7_floats 87 = .ok (.istore 6, 2) := by decide +kernel
theorem dX7_floats_89 : decode cX7_floats 89 = .ok (.iload 6, 2) := by decide +kernel
theorem dX7_floats_91 : decode cX7_floats 91 = .ok (.ifCond .eq 34, 3) := by decide +kernel
theorem dX7_floats_94 : decode cX7_floats 94 = .ok (.aload_n 0, 1) := by decide +kernel
theorem dX7_floats_95 : decode cX7_floats 95 = .ok (.iload_n 2, 1) := by decide +kernel
theorem dX7_floats_96 : decode cX7_floats 96 = .ok (.invokevirtual 92, 3) := by decide +kernel
theorem dX7_floats_99 : decode cX7_floats 99 = .ok (.iload_n 3, 1) := by decide +kernel
theorem dX7_floats_100 : decode cX7_floats 100 = .ok (.iadd, 1) := by decide +kernel
theorem dX7_floats_101 : decode cX7_floats 101 = .ok (.iload 5, 2) := by decide +kernel
theorem dX7_floats_103 : decode cX7_floats 103 = .ok (.if_icmp .lt 22, 3) := by decide +kernel
theorem dX7_floats_106 : decode cX7_floats 106 = .ok (.aload_n 0, 1) := by decide +kernel
theorem dX7_floats_107 : decode cX7_floats 107 = .ok (.iload_n 2, 1) := by decide +kernel
theorem dX7_floats_108 : decode cX7_floats 108 = .ok (.iconst 1, 1) := by decide +kernel
theorem dX7_floats_109 : decode cX7_floats 109 = .ok (.iadd, 1) := by decide +kernel
theorem dX7_floats_110 : decode cX7_floats 110 = .ok (.invokevirtual 92, 3) := by decide +kernel
theorem dX7_floats_113 : decode cX7_floats 113 = .ok (.iload 4, 2) := by decide +kernel
theorem dX7_floats_115 : decode cX7_floats 115 = .ok (.iadd, 1) := by decide +kernel
theorem dX7_floats_116 : decode cX7_floats 116 = .ok (.iload 5, 2) := by decide +kernel
theorem dX7_floats_118 : decode cX7_floats 118 = .ok (.if_icmp .lt 7, 3) := by decide +kernel
theorem dX7_floats_121 : decode cX7_floats 121 = .ok (.iconst 1, 1) := by decide +kernel
theorem dX7_floats_122 : decode cX7_floats 122 = .ok (.goto 4, 3) := by decide +kernel
theorem dX7_floats_125 : decode cX7_floats 125 = .ok (.iconst 0, 1) := by decide +kernel
theorem dX7_floats_126 : decode cX7_floats 126 = .ok (.ireturn, 1) := by decide +kernel
theorem dX7_ship_0 : decode cX7_ship 0 = .ok (.iload_n 1, 1) := by decide +kernel
theorem dX7_ship_1 : decode cX7_ship 1 = .ok (.iconst 1, 1) := by decide +kernel
theorem dX7_ship_2 : decode cX7_ship 2 = .ok (.iconst 4, 1) := by decide +kernel
theorem dX7_ship_3 : decode cX7_ship 3 = .ok (.invokestatic 78, 3) := by decide +kernel
theorem dX7_ship_6 : decode cX7_ship 6 = .ok (.ifCond .eq 28, 3) := by decide +kernel
theorem dX7_ship_9 : decode cX7_ship 9 = .ok (.iload_n 2, 1) := by decide +kernel
theorem dX7_ship_10 : decode cX7_ship 10 = .ok (.bipush 10, 2) := by decide +kernel
theorem dX7_ship_12 : decode cX7_ship 12 = .ok (.sipush 150, 3) := by decide +kernel
theorem dX7_ship_15 : decode cX7_ship 15 = .ok (.invokestatic 78, 3) := by decide +kernel
theorem dX7_ship_18 : decode cX7_ship 18 = .ok (.ifCond .eq 16, 3) := by decide +kernel
theorem dX7_ship_21 : decode cX7_ship 21 = .ok (.iload_n 3, 1) := by decide +kernel
theorem dX7_ship_22 : decode cX7_ship 22 = .ok (.iconst 0, 1) := by decide +kernel
theorem dX7_ship_23 : decode cX7_ship 23 = .ok (.iconst 3, 1) := by decide +kernel
theorem dX7_ship_24 : decode cX7_ship 24 = .ok (.invokestatic 78, 3) := by decide +kernel
theorem dX7_ship_27 : decode cX7_ship 27 = .ok (.ifCond .eq 7, 3) := by decide +kernel
theorem dX7_ship_30 : decode cX7_ship 30 = .ok (.iconst 1, 1) := by decide +kernel
theorem dX7_ship_31 : decode cX7_ship 31 = .ok (.goto 4, 3) := by decide +kernel
theorem dX7_ship_34 : decode cX7_ship 34 = .ok (.iconst 0, 1) := by decide +kernel
theorem dX7_ship_35 : decode cX7_ship 35 = .ok (.istore 5, 2) := by decide +kernel
theorem dX7_ship_37 : decode cX7_ship 37 = .ok (.aload_n 0, 1) := by decide +kernel
theorem dX7_ship_38 : decode cX7_ship 38 = .ok (.iload 4, 2) := by decide +kernel
theorem dX7_ship_40 : decode cX7_ship 40 = .ok (.iconst 0, 1) := by decide +kernel
theorem dX7_ship_41 : decode cX7_ship 41 = .ok (.iconst 5, 1) := by decide +kernel
theorem dX7_ship_42 : decode cX7_ship 42 = .ok (.invokestatic 78, 3) := by decide +kernel
theorem dX7_ship_45 : decode cX7_ship 45 = .ok (.ifCond .ne 7, 3) := by decide +kernel
theorem dX7_ship_48 : decode cX7_ship 48 = .ok (.iconst 1, 1) := by decide +kernel
theorem dX7_ship_49 : decode cX7_ship 49 = .ok (.goto 26, 3) := by decide +kernel
theorem dX7_ship_52 : decode cX7_ship 52 = .ok (.iload 5, 2) := by decide +kernel
theorem dX7_ship_54 : decode cX7_ship 54 = .ok (.ifCond .ne 7, 3) := by decide +kernel
theorem dX7_ship_57 : decode cX7_ship 57 = .ok (.iconst 2, 1) := by decide +kernel
theorem dX7_ship_58 : decode cX7_ship 58 = .ok (.goto 17, 3) := by decide +kernel
theorem dX7_ship_61 : decode cX7_ship 61 = .ok (.aload_n 0, 1) := by decide +kernel
theorem dX7_ship_62 : decode cX7_ship 62 = .ok (.getfield 75, 3) := by decide +kernel
theorem dX7_ship_65 : decode cX7_ship 65 = .ok (.bipush 30, 2) := by decide +kernel
theorem dX7_ship_67 : decode cX7_ship 67 = .ok (.if_icmp .ne 7, 3) := by decide +kernel
theorem dX7_ship_70 : decode cX7_ship 70 = .ok (.iconst 3, 1) := by decide +kernel
theorem dX7_ship_71 : decode cX7_ship 71 = .ok (.goto 4, 3) := by decide +kernel
theorem dX7_ship_74 : decode cX7_ship 74 = .ok (.iconst 0, 1) := by decide +kernel
theorem dX7_ship_75 : decode cX7_ship 75 = .ok (.invokevirtual 85, 3) := by decide +kernel
theorem dX7_ship_78 : decode cX7_ship 78 = .ok (.ifCond .ne 5, 3) := by decide +kernel
theorem dX7_ship_81 : decode cX7_ship 81 = .ok (.iconst 0, 1) := by decide +kernel
theorem dX7_ship_82 : decode cX7_ship 82 = .ok (.ireturn, 1) := by decide +kernel
theorem dX7_ship_83 : decode cX7_ship 83 = .ok (.aload_n 0, 1) := by decide +kernel
theorem dX7_ship_84 : decode cX7_ship 84 = .ok (.getfield 19, 3) := by decide +kernel
theorem dX7_ship_87 : decode cX7_ship 87 = .ok (.aload_n 0, 1) := by decide +kernel
theorem dX7_ship_88 : decode cX7_ship 88 = .ok (.getfield 75, 3) := by decide +kernel
theorem dX7_ship_91 : decode cX7_ship 91 = .ok (.iload_n 1, 1) := by decide +kernel
theorem dX7_ship_92 : decode cX7_ship 92 = .ok (.iastore, 1) := by decide +kernel
theorem dX7_ship_93 : decode cX7_ship 93 = .ok (.aload_n 0, 1) := by decide +kernel
theorem dX7_ship_94 : decode cX7_ship 94 = .ok (.getfield 22, 3) := by decide +kernel
theorem dX7_ship_97 : decode cX7_ship 97 = .ok (.aload_n 0, 1) := by decide +kernel
theorem dX7_ship_98 : decode cX7_ship 98 = .ok (.getfield 75, 3) := by decide +kernel
theorem dX7_ship_101 : decode cX7_ship 101 = .ok (.iload_n 2, 1) := by decide +kernel
theorem dX7_ship_102 : decode cX7_ship 102 = .ok (.iastore, 1) := by decide +kernel
theorem dX7_ship_103 : decode cX7_ship 103 = .ok (.aload_n 0, 1) := by decide +kernel
theorem dX7_ship_104 : decode cX7_ship 104 = .ok (.getfield 25, 3) := by decide +kernel
theorem dX7_ship_107 : decode cX7_ship 107 = .ok (.aload_n 0, 1) := by decide +kernel
theorem dX7_ship_108 : decode cX7_ship 108 = .ok (.getfield 75, 3) := by decide +kernel
theorem dX7_ship_111 : decode cX7_ship 111 = .ok (.iload_n 3, 1) := by decide +kernel
theorem dX7_ship_112 : decode cX7_ship 112 = .ok (.iastore, 1) := by decide +kernel
theorem dX7_ship_113 : decode cX7_ship 113 = .ok (.aload_n 0, 1) := by decide +kernel
theorem dX7_ship_114 : decode cX7_ship 114 = .ok (.getfield 28, 3) := by decide +kernel
theorem dX7_ship_117 : decode cX7_ship 117 = .ok (.aload_n 0, 1) := by decide +kernel
theorem dX7_ship_118 : decode cX7_ship 118 = .ok (.getfield 75, 3) := by decide +kernel
theorem dX7_ship_121 : decode cX7_ship 121 = .ok (.iload 4, 2) := by decide +kernel
theorem dX7_ship_123 : decode cX7_ship 123 = .ok (.iastore, 1) := by decide +kernel
theorem dX7_ship_124 : decode cX7_ship 124 = .ok (.aload_n 0, 1) := by decide +kernel
theorem dX7_ship_125 : decode cX7_ship 125 = .ok (.getfield 34, 3) := by decide +kernel
theorem dX7_ship_128 : decode cX7_ship 128 = .ok (.aload_n 0, 1) := by decide +kernel
theorem dX7_ship_129 : decode cX7_ship 129 = .ok (.getfield 75, 3) := by decide +kernel
theorem dX7_ship_132 : decode cX7_ship 132 = .ok (.iconst (-1), 1) := by decide +kernel
theorem dX7_ship_133 : decode cX7_ship 133 = .ok (.iastore, 1) := by decide +kernel
theorem dX7_ship_134 : decode cX7_ship 134 = .ok (.aload_n 0, 1) := by decide +kernel
theorem dX7_ship_135 : decode cX7_ship 135 = .ok (.dup, 1) := by decide +kernel
theorem dX7_ship_136 : decode cX7_ship 136 = .ok (.getfield 75, 3) := by decide +kernel
theorem dX7_ship_139 : decode cX7_ship 139 = .ok (.iconst 1, 1) := by decide +kernel
theorem dX7_ship_140 : decode cX7_ship 140 = .ok (.iadd, 1) := by decide +kernel
theorem dX7_ship_141 : decode cX7_ship 141 = .ok (.putfield 75, 3) := by decide +kernel
theorem dX7_ship_144 : decode cX7_ship 144 = .ok (.aload_n 0, 1) := by decide +kernel
theorem dX7_ship_145 : decode cX7_ship 145 = .ok (.getfield 75, 3) := by decide +kernel
theorem dX7_ship_148 : decode cX7_ship 148 = .ok (.iconst 1, 1) := by decide +kernel
theorem dX7_ship_149 : decode cX7_ship 149 = .ok (.isub, 1) := by decide +kernel
theorem dX7_ship_150 : decode cX7_ship 150 = .ok (.ireturn, 1) := by decide +kernel
theorem dX7_ordered_0 : decode cX7_ordered 0 = .ok (.iconst 0, 1) := by decide +kernel
theorem dX7_ordered_1 : decode cX7_ordered 1 = .ok (.istore_n 1, 1) := by decide +kernel
theorem dX7_ordered_2 : decode cX7_ordered 2 = .ok (.iconst 0, 1) := by decide +kernel
theorem dX7_ordered_3 : decode cX7_ordered 3 = .ok (.istore_n 2, 1) := by decide +kernel
theorem dX7_ordered_4 : decode cX7_ordered 4 = .ok (.iload_n 2, 1) := by decide +kernel
theorem dX7_ordered_5 : decode cX7_ordered 5 = .ok (.aload_n 0, 1) := by decide +kernel
theorem dX7_ordered_6 : decode cX7_ordered 6 = .ok (.getfield 75, 3) := by decide +kernel
theorem dX7_ordered_9 : decode cX7_ordered 9 = .ok (.if_icmp .ge 27, 3) := by decide +kernel
theorem dX7_ordered_12 : decode cX7_ordered 12 = .ok (.iload_n 1, 1) := by decide +kernel
theorem dX7_ordered_13 : decode cX7_ordered 13 = .ok (.aload_n 0, 1) := by decide +kernel
theorem dX7_ordered_14 : decode cX7_ordered 14 = .ok (.getfield 34, 3) := by decide +kernel
theorem dX7_ordered_17 : decode cX7_ordered 17 = .ok (.iload_n 2, 1) := by decide +kernel
theorem dX7_ordered_18 : decode cX7_ordered 18 = .ok (.iaload, 1) := by decide +kernel
theorem dX7_ordered_19 : decode cX7_ordered 19 = .ok (.iconst (-1), 1) := by decide +kernel
theorem dX7_ordered_20 : decode cX7_ordered 20 = .ok (.if_icmp .eq 7, 3) := by decide +kernel
theorem dX7_ordered_23 : decode cX7_ordered 23 = .ok (.iconst 1, 1) := by decide +kernel
theorem dX7_ordered_24 : decode cX7_ordered 24 = .ok (.goto 4, 3) := by decide +kernel
theorem dX7_ordered_27 : decode cX7_ordered 27 = .ok (.iconst 0, 1) := by decide +kernel
theorem dX7_ordered_28 : decode cX7_ordered 28 = .ok (.iadd, 1) := by decide +kernel
theorem dX7_ordered_29 : decode cX7_ordered 29 = .ok (.istore_n 1, 1) := by decide +kernel
theorem dX7_ordered_30 : decode cX7_ordered 30 = .ok (.iinc 2 1, 3) := by decide +kernel
theorem dX7_ordered_33 : decode cX7_ordered 33 = .ok (.goto (-29), 3) := by decide +kernel
theorem dX7_ordered_36 : decode cX7_ordered 36 = .ok (.iload_n 1, 1) := by decide +kernel
theorem dX7_ordered_37 : decode cX7_ordered 37 = .ok (.ireturn, 1) := by decide +kernel
theorem dX7_order_0 : decode cX7_order 0 = .ok (.aload_n 0, 1) := by decide +kernel
theorem dX7_order_1 : decode cX7_order 1 = .ok (.iload_n 1, 1) := by decide +kernel
theorem dX7_order_2 : decode cX7_order 2 = .ok (.invokevirtual 99, 3) := by decide +kernel
theorem dX7_order_5 : decode cX7_order 5 = .ok (.istore_n 3, 1) := by decide +kernel
theorem dX7_order_6 : decode cX7_order 6 = .ok (.iload_n 3, 1) := by decide +kernel
theorem dX7_order_7 : decode cX7_order 7 = .ok (.ifCond .eq 36, 3) := by decide +kernel
theorem dX7_order_10 : decode cX7_order 10 = .ok (.aload_n 0, 1) := by decide +kernel
theorem dX7_order_11 : decode cX7_order 11 = .ok (.getfield 31, 3) := by decide +kernel
theorem dX7_order_14 : decode cX7_order 14 = .ok (.iload_n 1, 1) := by decide +kernel
theorem dX7_order_15 : decode cX7_order 15 = .ok (.iaload, 1) := by decide +kernel
theorem dX7_order_16 : decode cX7_order 16 = .ok (.ifCond .eq 13, 3) := by decide +kernel
theorem dX7_order_19 : decode cX7_order 19 = .ok (.aload_n 0, 1) := by decide +kernel
theorem dX7_order_20 : decode cX7_order 20 = .ok (.getfield 31, 3) := by decide +kernel
theorem dX7_order_23 : decode cX7_order 23 = .ok (.iload_n 1, 1) := by decide +kernel
theorem dX7_order_24 : decode cX7_order 24 = .ok (.iaload, 1) := by decide +kernel
theorem dX7_order_25 : decode cX7_order 25 = .ok (.iconst 2, 1) := by decide +kernel
theorem dX7_order_26 : decode cX7_order 26 = .ok (.if_icmp .ne 17, 3) := by decide +kernel
theorem dX7_order_29 : decode cX7_order 29 = .ok (.aload_n 0, 1) := by decide +kernel
theorem dX7_order_30 : decode cX7_order 30 = .ok (.getfield 34, 3) := by decide +kernel
theorem dX7_order_33 : decode cX7_order 33 = .ok (.iload_n 1, 1) := by decide +kernel
theorem dX7_order_34 : decode cX7_order 34 = .ok (.iaload, 1) := by decide +kernel
theorem dX7_order_35 : decode cX7_order 35 = .ok (.iconst (-1), 1) := by decide +kernel
theorem dX7_order_36 : decode cX7_order 36 = .ok (.if_icmp .ne 7, 3) := by decide +kernel
theorem dX7_order_39 : decode cX7_order 39 = .ok (.iconst 1, 1) := by decide +kernel
theorem dX7_order_40 : decode cX7_order 40 = .ok (.goto 4, 3) := by decide +kernel
theorem dX7_order_43 : decode cX7_order 43 = .ok (.iconst 0, 1) := by decide +kernel
theorem dX7_order_44 : decode cX7_order 44 = .ok (.istore 4, 2) := by decide +kernel
theorem dX7_order_46 : decode cX7_order 46 = .ok (.aload_n 0, 1) := by decide +kernel
theorem dX7_order_47 : decode cX7_order 47 = .ok (.iload_n 3, 1) := by decide +kernel
theorem dX7_order_48 : decode cX7_order 48 = .ok (.ifCond .ne 7, 3) := by decide +kernel
theorem dX7_order_51 : decode cX7_order 51 = .ok (.iconst 1, 1) := by decide +kernel
theorem dX7_order_52 : decode cX7_order 52 = .ok (.goto 33, 3) := by decide +kernel
theorem dX7_order_55 : decode cX7_order 55 = .ok (.iload_n 2, 1) := by decide +kernel
theorem dX7_order_56 : decode cX7_order 56 = .ok (.aload_n 0, 1) := by decide +kernel
theorem dX7_order_57 : decode cX7_order 57 = .ok (.getfield 89, 3) := by decide +kernel
theorem dX7_order_60 : decode cX7_order 60 = .ok (.iconst 1, 1) := by decide +kernel
theorem dX7_order_61 : decode cX7_order 61 = .ok (.iadd, 1) := by decide +kernel
theorem dX7_order_62 : decode cX7_order 62 = .ok (.sipush 3000, 3) := by decide +kernel
theorem dX7_order_65 : decode cX7_order 65 = .ok (.invokestatic 78, 3) := by decide +kernel
theorem dX7_order_68 : decode cX7_order 68 = .ok (.ifCond .ne 7, 3) := by decide +kernel
theorem dX7_order_71 : decode cX7_order 71 = .ok (.iconst 2, 1) := by decide +kernel
theorem dX7_order_72 : decode cX7_order 72 = .ok (.goto 13, 3) := by decide +kernel
theorem dX7_order_75 : decode cX7_order 75 = .ok (.iload 4, 2) := by decide +kernel
theorem dX7_order_77 : decode cX7_order 77 = .ok (.ifCond .eq 7, 3) := by decide +kernel
theorem dX7_order_80 : decode cX7_order 80 = .ok (.iconst 0, 1) := by decide +kernel
theorem dX7_order_81 : decode cX7_order 81 = .ok (.goto 4, 3) := by decide +kernel
theorem dX7_order_84 : decode cX7_order 84 = .ok (.iconst 3, 1) := by decide +kernel
theorem dX7_order_85 : decode cX7_order 85 = .ok (.invokevirtual 85, 3) := by decide +kernel
theorem dX7_order_88 : decode cX7_order 88 = .ok (.ifCond .ne 5, 3) := by decide +kernel
theorem dX7_order_91 : decode cX7_order 91 = .ok (.iconst 0, 1) := by decide +kernel
theorem dX7_order_92 : decode cX7_order 92 = .ok (.ireturn, 1) := by decide +kernel
theorem dX7_order_93 : decode cX7_order 93 = .ok (.aload_n 0, 1) := by decide +kernel
theorem dX7_order_94 : decode cX7_order 94 = .ok (.getfield 34, 3) := by decide +kernel
theorem dX7_order_97 : decode cX7_order 97 = .ok (.iload_n 1, 1) := by decide +kernel
theorem dX7_order_98 : decode cX7_order 98 = .ok (.iload_n 2, 1) := by decide +kernel
theorem dX7_order_99 : decode cX7_order 99 = .ok (.iastore, 1) := by decide +kernel
theorem dX7_order_100 : decode cX7_order 100 = .ok (.aload_n 0, 1) := by decide +kernel
theorem dX7_order_101 : decode cX7_order 101 = .ok (.invokevirtual 102, 3) := by decide +kernel
theorem dX7_order_104 : decode cX7_order 104 = .ok (.ireturn, 1) := by decide +kernel
theorem dX7_cancel_0 : decode cX7_cancel 0 = .ok (.aload_n 0, 1) := by decide +kernel
theorem dX7_cancel_1 : decode cX7_cancel 1 = .ok (.iload_n 1, 1) := by decide +kernel
theorem dX7_cancel_2 : decode cX7_cancel 2 = .ok (.invokevirtual 99, 3) := by decide +kernel
theorem dX7_cancel_5 : decode cX7_cancel 5 = .ok (.istore_n 2, 1) := by decide +kernel
theorem dX7_cancel_6 : decode cX7_cancel 6 = .ok (.aload_n 0, 1) := by decide +kernel
theorem dX7_cancel_7 : decode cX7_cancel 7 = .ok (.iload_n 2, 1) := by decide +kernel
theorem dX7_cancel_8 : decode cX7_cancel 8 = .ok (.ifCond .ne 7, 3) := by decide +kernel
theorem dX7_cancel_11 : decode cX7_cancel 11 = .ok (.iconst 1, 1) := by decide +kernel
theorem dX7_cancel_12 : decode cX7_cancel 12 = .ok (.goto 18, 3) := by decide +kernel
theorem dX7_cancel_15 : decode cX7_cancel 15 = .ok (.aload_n 0, 1) := by decide +kernel
theorem dX7_cancel_16 : decode cX7_cancel 16 = .ok (.getfield 34, 3) := by decide +kernel
theorem dX7_cancel_19 : decode cX7_cancel 19 = .ok (.iload_n 1, 1) := by decide +kernel
theorem dX7_cancel_20 : decode cX7_cancel 20 = .ok (.iaload, 1) := by decide +kernel
theorem dX7_cancel_21 : decode cX7_cancel 21 = .ok (.iconst (-1), 1) := by decide +kernel
theorem dX7_cancel_22 : decode cX7_cancel 22 = .ok (.if_icmp .ne 7, 3) := by decide +kernel
theorem dX7_cancel_25 : decode cX7_cancel 25 = .ok (.iconst 2, 1) := by decide +kernel
theorem dX7_cancel_26 : decode cX7_cancel 26 = .ok (.goto 4, 3) := by decide +kernel
theorem dX7_cancel_29 : decode cX7_cancel 29 = .ok (.iconst 0, 1) := by decide +kernel
theorem dX7_cancel_30 : decode cX7_cancel 30 = .ok (.invokevirtual 85, 3) := by decide +kernel
theorem dX7_cancel_33 : decode cX7_cancel 33 = .ok (.ifCond .ne 5, 3) := by decide +kernel
theorem dX7_cancel_36 : decode cX7_cancel 36 = .ok (.iconst 0, 1) := by decide +kernel
theorem dX7_cancel_37 : decode cX7_cancel 37 = .ok (.ireturn, 1) := by decide +kernel
theorem dX7_cancel_38 : decode cX7_cancel 38 = .ok (.aload_n 0, 1) := by decide +kernel
theorem dX7_cancel_39 : decode cX7_cancel 39 = .ok (.getfield 34, 3) := by decide +kernel
theorem dX7_cancel_42 : decode cX7_cancel 42 = .ok (.iload_n 1, 1) := by decide +kernel
theorem dX7_cancel_43 : decode cX7_cancel 43 = .ok (.iaload, 1) := by decide +kernel
theorem dX7_cancel_44 : decode cX7_cancel 44 = .ok (.istore_n 3, 1) := by decide +kernel
theorem dX7_cancel_45 : decode cX7_cancel 45 = .ok (.aload_n 0, 1) := by decide +kernel
theorem dX7_cancel_46 : decode cX7_cancel 46 = .ok (.getfield 34, 3) := by decide +kernel
theorem dX7_cancel_49 : decode cX7_cancel 49 = .ok (.iload_n 1, 1) := by decide +kernel
theorem dX7_cancel_50 : decode cX7_cancel 50 = .ok (.iconst (-1), 1) := by decide +kernel
theorem dX7_cancel_51 : decode cX7_cancel 51 = .ok (.iastore, 1) := by decide +kernel
theorem dX7_cancel_52 : decode cX7_cancel 52 = .ok (.iload_n 3, 1) := by decide +kernel
theorem dX7_cancel_53 : decode cX7_cancel 53 = .ok (.ireturn, 1) := by decide +kernel
theorem dX7_hasWater_0 : decode cX7_hasWater 0 = .ok (.aload_n 0, 1) := by decide +kernel
theorem dX7_hasWater_1 : decode cX7_hasWater 1 = .ok (.aload_n 0, 1) := by decide +kernel
theorem dX7_hasWater_2 : decode cX7_hasWater 2 = .ok (.iload_n 1, 1) := by decide +kernel
theorem dX7_hasWater_3 : decode cX7_hasWater 3 = .ok (.invokevirtual 99, 3) := by decide +kernel
theorem dX7_hasWater_6 : decode cX7_hasWater 6 = .ok (.ifCond .ne 7, 3) := by decide +kernel
theorem dX7_hasWater_9 : decode cX7_hasWater 9 = .ok (.iconst 1, 1) := by decide +kernel
theorem dX7_hasWater_10 : decode cX7_hasWater 10 = .ok (.goto 19, 3) := by decide +kernel
theorem dX7_hasWater_13 : decode cX7_hasWater 13 = .ok (.iload_n 2, 1) := by decide +kernel
theorem dX7_hasWater_14 : decode cX7_hasWater 14 = .ok (.iconst 0, 1) := by decide +kernel
theorem dX7_hasWater_15 : decode cX7_hasWater 15 = .ok (.sipush 3000, 3) := by decide +kernel
theorem dX7_hasWater_18 : decode cX7_hasWater 18 = .ok (.invokestatic 78, 3) := by decide +kernel
theorem dX7_hasWater_21 : decode cX7_hasWater 21 = .ok (.ifCond .eq 7, 3) := by decide +kernel
theorem dX7_hasWater_24 : decode cX7_hasWater 24 = .ok (.iconst 0, 1) := by decide +kernel
theorem dX7_hasWater_25 : decode cX7_hasWater 25 = .ok (.goto 4, 3) := by decide +kernel
theorem dX7_hasWater_28 : decode cX7_hasWater 28 = .ok (.iconst 2, 1) := by decide +kernel
theorem dX7_hasWater_29 : decode cX7_hasWater 29 = .ok (.invokevirtual 85, 3) := by decide +kernel
theorem dX7_hasWater_32 : decode cX7_hasWater 32 = .ok (.ifCond .eq 16, 3) := by decide +kernel
theorem dX7_hasWater_35 : decode cX7_hasWater 35 = .ok (.aload_n 0, 1) := by decide +kernel
theorem dX7_hasWater_36 : decode cX7_hasWater 36 = .ok (.iload_n 1, 1) := by decide +kernel
theorem dX7_hasWater_37 : decode cX7_hasWater 37 = .ok (.iload_n 2, 1) := by decide +kernel
theorem dX7_hasWater_38 : decode cX7_hasWater 38 = .ok (.invokevirtual 106, 3) := by decide +kernel
theorem dX7_hasWater_41 : decode cX7_hasWater 41 = .ok (.ifCond .eq 7, 3) := by decide +kernel
theorem dX7_hasWater_44 : decode cX7_hasWater 44 = .ok (.iconst 1, 1) := by decide +kernel
theorem dX7_hasWater_45 : decode cX7_hasWater 45 = .ok (.goto 4, 3) := by decide +kernel
theorem dX7_hasWater_48 : decode cX7_hasWater 48 = .ok (.iconst 0, 1) := by decide +kernel
theorem dX7_hasWater_49 : decode cX7_hasWater 49 = .ok (.ireturn, 1) := by decide +kernel
theorem dX7_state_0 : decode cX7_state 0 = .ok (.aload_n 0, 1) := by decide +kernel
theorem dX7_state_1 : decode cX7_state 1 = .ok (.aload_n 0, 1) := by decide +kernel
theorem dX7_state_2 : decode cX7_state 2 = .ok (.iload_n 1, 1) := by decide +kernel
theorem dX7_state_3 : decode cX7_state 3 = .ok (.invokevirtual 99, 3) := by decide +kernel
theorem dX7_state_6 : decode cX7_state 6 = .ok (.ifCond .eq 7, 3) := by decide +kernel
theorem dX7_state_9 : decode cX7_state 9 = .ok (.iconst 0, 1) := by decide +kernel
theorem dX7_state_10 : decode cX7_state 10 = .ok (.goto 4, 3) := by decide +kernel
theorem dX7_state_13 : decode cX7_state 13 = .ok (.iconst 1, 1) := by decide +kernel
theorem dX7_state_14 : decode cX7_state 14 = .ok (.invokevirtual 85, 3) := by decide +kernel
theorem dX7_state_17 : decode cX7_state 17 = .ok (.ifCond .eq 12, 3) := by decide +kernel
theorem dX7_state_20 : decode cX7_state 20 = .ok (.aload_n 0, 1) := by decide +kernel
theorem dX7_state_21 : decode cX7_state 21 = .ok (.getfield 31, 3) := by decide +kernel
theorem dX7_state_24 : decode cX7_state 24 = .ok (.iload_n 1, 1) := by decide +kernel
theorem dX7_state_25 : decode cX7_state 25 = .ok (.iaload, 1) := by decide +kernel
theorem dX7_state_26 : decode cX7_state 26 = .ok (.goto 4, 3) := by decide +kernel
theorem dX7_state_29 : decode cX7_state 29 = .ok (.iconst 0, 1) := by decide +kernel
theorem dX7_state_30 : decode cX7_state 30 = .ok (.ireturn, 1) := by decide +kernel
theorem dX7_isAhead_0 : decode cX7_isAhead 0 = .ok (.aload_n 0, 1) := by decide +kernel
theorem dX7_isAhead_1 : decode cX7_isAhead 1 = .ok (.getfield 25, 3) := by decide +kernel
theorem dX7_isAhead_4 : decode cX7_isAhead 4 = .ok (.iload_n 1, 1) := by decide +kernel
theorem dX7_isAhead_5 : decode cX7_isAhead 5 = .ok (.iaload, 1) := by decide +kernel
theorem dX7_isAhead_6 : decode cX7_isAhead 6 = .ok (.aload_n 0, 1) := by decide +kernel
theorem dX7_isAhead_7 : decode cX7_isAhead 7 = .ok (.getfield 25, 3) := by decide +kernel
theorem dX7_isAhead_10 : decode cX7_isAhead 10 = .ok (.iload_n 2, 1) := by decide +kernel
theorem dX7_isAhead_11 : decode cX7_isAhead 11 = .ok (.iaload, 1) := by decide +kernel
theorem dX7_isAhead_12 : decode cX7_isAhead 12 = .ok (.if_icmp .eq 24, 3) := by decide +kernel
theorem dX7_isAhead_15 : decode cX7_isAhead 15 = .ok (.aload_n 0, 1) := by decide +kernel
theorem dX7_isAhead_16 : decode cX7_isAhead 16 = .ok (.getfield 25, 3) := by decide +kernel
theorem dX7_isAhead_19 : decode cX7_isAhead 19 = .ok (.iload_n 1, 1) := by decide +kernel
theorem dX7_isAhead_20 : decode cX7_isAhead 20 = .ok (.iaload, 1) := by decide +kernel
theorem dX7_isAhead_21 : decode cX7_isAhead 21 = .ok (.aload_n 0, 1) := by decide +kernel
theorem dX7_isAhead_22 : decode cX7_isAhead 22 = .ok (.getfield 25, 3) := by decide +kernel
theorem dX7_isAhead_25 : decode cX7_isAhead 25 = .ok (.iload_n 2, 1) := by decide +kernel
theorem dX7_isAhead_26 : decode cX7_isAhead 26 = .ok (.iaload, 1) := by decide +kernel
theorem dX7_isAhead_27 : decode cX7_isAhead 27 = .ok (.if_icmp .le 7, 3) := by decide +kernel
theorem dX7_isAhead_30 : decode cX7_isAhead 30 = .ok (.iconst 1, 1) := by decide +kernel
theorem dX7_isAhead_31 : decode cX7_isAhead 31 = .ok (.goto 4, 3) := by decide +kernel
theorem dX7_isAhead_34 : decode cX7_isAhead 34 = .ok (.iconst 0, 1) := by decide +kernel
theorem dX7_isAhead_35 : decode cX7_isAhead 35 = .ok (.ireturn, 1) := by decide +kernel
theorem dX7_isAhead_36 : decode cX7_isAhead 36 = .ok (.aload_n 0, 1) := by decide +kernel
theorem dX7_isAhead_37 : decode cX7_isAhead 37 = .ok (.getfield 34, 3) := by decide +kernel
theorem dX7_isAhead_40 : decode cX7_isAhead 40 = .ok (.iload_n 1, 1) := by decide +kernel
theorem dX7_isAhead_41 : decode cX7_isAhead 41 = .ok (.iaload, 1) := by decide +kernel
theorem dX7_isAhead_42 : decode cX7_isAhead 42 = .ok (.aload_n 0, 1) := by decide +kernel
theorem dX7_isAhead_43 : decode cX7_isAhead 43 = .ok (.getfield 34, 3) := by decide +kernel
theorem dX7_isAhead_46 : decode cX7_isAhead 46 = .ok (.iload_n 2, 1) := by decide +kernel
theorem dX7_isAhead_47 : decode cX7_isAhead 47 = .ok (.iaload, 1) := by decide +kernel
theorem dX7_isAhead_48 : decode cX7_isAhead 48 = .ok (.if_icmp .lt 23, 3) := by decide +kernel
theorem dX7_isAhead_51 : decode cX7_isAhead 51 = .ok (.aload_n 0, 1) := by decide +kernel
theorem dX7_isAhead_52 : decode cX7_isAhead 52 = .ok (.getfield 34, 3) := by decide +kernel
theorem dX7_isAhead_55 : decode cX7_isAhead 55 = .ok (.iload_n 1, 1) := by decide +kernel
theorem dX7_isAhead_56 : decode cX7_isAhead 56 = .ok (.iaload, 1) := by decide +kernel
theorem dX7_isAhead_57 : decode cX7_isAhead 57 = .ok (.aload_n 0, 1) := by decide +kernel
theorem dX7_isAhead_58 : decode cX7_isAhead 58 = .ok (.getfield 34, 3) := by decide +kernel
theorem dX7_isAhead_61 : decode cX7_isAhead 61 = .ok (.iload_n 2, 1) := by decide +kernel
theorem dX7_isAhead_62 : decode cX7_isAhead 62 = .ok (.iaload, 1) := by decide +kernel
theorem dX7_isAhead_63 : decode cX7_isAhead 63 = .ok (.if_icmp .ne 12, 3) := by decide +kernel
theorem dX7_isAhead_66 : decode cX7_isAhead 66 = .ok (.iload_n 1, 1) := by decide +kernel
theorem dX7_isAhead_67 : decode cX7_isAhead 67 = .ok (.iload_n 2, 1) := by decide +kernel
theorem dX7_isAhead_68 : decode cX7_isAhead 68 = .ok (.if_icmp .ge 7, 3) := by decide +kernel
theorem dX7_isAhead_71 : decode cX7_isAhead 71 = .ok (.iconst 1, 1) := by decide +kernel
theorem dX7_isAhead_72 : decode cX7_isAhead 72 = .ok (.goto 4, 3) := by decide +kernel
theorem dX7_isAhead_75 : decode cX7_isAhead 75 = .ok (.iconst 0, 1) := by decide +kernel
theorem dX7_isAhead_76 : decode cX7_isAhead 76 = .ok (.ireturn, 1) := by decide +kernel
theorem dX7_queue_0 : decode cX7_queue 0 = .ok (.aload_n 0, 1) := by decide +kernel
theorem dX7_queue_1 : decode cX7_queue 1 = .ok (.aload_n 0, 1) := by decide +kernel
theorem dX7_queue_2 : decode cX7_queue 2 = .ok (.iload_n 1, 1) := by decide +kernel
theorem dX7_queue_3 : decode cX7_queue 3 = .ok (.invokevirtual 99, 3) := by decide +kernel
theorem dX7_queue_6 : decode cX7_queue 6 = .ok (.ifCond .eq 7, 3) := by decide +kernel
theorem dX7_queue_9 : decode cX7_queue 9 = .ok (.iconst 0, 1) := by decide +kernel
theorem dX7_queue_10 : decode cX7_queue 10 = .ok (.goto 4, 3) := by decide +kernel
theorem dX7_queue_13 : decode cX7_queue 13 = .ok (.iconst 1, 1) := by decide +kernel
theorem dX7_queue_14 : decode cX7_queue 14 = .ok (.invokevirtual 85, 3) := by decide +kernel
theorem dX7_queue_17 : decode cX7_queue 17 = .ok (.ifCond .ne 5, 3) := by decide +kernel
theorem dX7_queue_20 : decode cX7_queue 20 = .ok (.iconst 0, 1) := by decide +kernel
theorem dX7_queue_21 : decode cX7_queue 21 = .ok (.ireturn, 1) := by decide +kernel
theorem dX7_queue_22 : decode cX7_queue 22 = .ok (.iconst 0, 1) := by decide +kernel
theorem dX7_queue_23 : decode cX7_queue 23 = .ok (.istore_n 2, 1) := by decide +kernel
theorem dX7_queue_24 : decode cX7_queue 24 = .ok (.iconst 0, 1) := by decide +kernel
theorem dX7_queue_25 : decode cX7_queue 25 = .ok (.istore_n 3, 1) := by decide +kernel
theorem dX7_queue_26 : decode cX7_queue 26 = .ok (.iload_n 3, 1) := by decide +kernel
theorem dX7_queue_27 : decode cX7_queue 27 = .ok (.aload_n 0, 1) := by decide +kernel
theorem dX7_queue_28 : decode cX7_queue 28 = .ok (.getfield 75, 3) := by decide +kernel
theorem dX7_queue_31 : decode cX7_queue 31 = .ok (.if_icmp .ge 36, 3) := by decide +kernel
theorem dX7_queue_34 : decode cX7_queue 34 = .ok (.iload_n 2, 1) := by decide +kernel
theorem dX7_queue_35 : decode cX7_queue 35 = .ok (.aload_n 0, 1) := by decide +kernel
theorem dX7_queue_36 : decode cX7_queue 36 = .ok (.getfield 34, 3) := by decide +kernel
theorem dX7_queue_39 : decode cX7_queue 39 = .ok (.iload_n 3, 1) := by decide +kernel
theorem dX7_queue_40 : decode cX7_queue 40 = .ok (.iaload, 1) := by decide +kernel
theorem dX7_queue_41 : decode cX7_queue 41 = .ok (.iconst (-1), 1) := by decide +kernel
theorem dX7_queue_42 : decode cX7_queue 42 = .ok (.if_icmp .eq 16, 3) := by decide +kernel
theorem dX7_queue_45 : decode cX7_queue 45 = .ok (.aload_n 0, 1) := by decide +kernel
theorem dX7_queue_46 : decode cX7_queue 46 = .ok (.iload_n 3, 1) := by decide +kernel
theorem dX7_queue_47 : decode cX7_queue 47 = .ok (.iload_n 1, 1) := by decide +kernel
theorem dX7_queue_48 : decode cX7_queue 48 = .ok (.invokevirtual 110, 3) := by decide +kernel
theorem dX7_queue_51 : decode cX7_queue 51 = .ok (.ifCond .eq 7, 3) := by decide +kernel
theorem dX7_queue_54 : decode cX7_queue 54 = .ok (.iconst 1, 1) := by decide +kernel
theorem dX7_queue_55 : decode cX7_queue 55 = .ok (.goto 4, 3) := by decide +kernel
theorem dX7_queue_58 : decode cX7_queue 58 = .ok (.iconst 0, 1) := by decide +kernel
theorem dX7_queue_59 : decode cX7_queue 59 = .ok (.iadd, 1) := by decide +kernel
theorem dX7_queue_60 : decode cX7_queue 60 = .ok (.istore_n 2, 1) := by decide +kernel
theorem dX7_queue_61 : decode cX7_queue 61 = .ok (.iinc 3 1, 3) := by decide +kernel
theorem dX7_queue_64 : decode cX7_queue 64 = .ok (.goto (-38), 3) := by decide +kernel
theorem dX7_queue_67 : decode cX7_queue 67 = .ok (.aload_n 0, 1) := by decide +kernel
theorem dX7_queue_68 : decode cX7_queue 68 = .ok (.getfield 34, 3) := by decide +kernel
theorem dX7_queue_71 : decode cX7_queue 71 = .ok (.iload_n 1, 1) := by decide +kernel
theorem dX7_queue_72 : decode cX7_queue 72 = .ok (.iaload, 1) := by decide +kernel
theorem dX7_queue_73 : decode cX7_queue 73 = .ok (.iconst (-1), 1) := by decide +kernel
theorem dX7_queue_74 : decode cX7_queue 74 = .ok (.if_icmp .ne 7, 3) := by decide +kernel
theorem dX7_queue_77 : decode cX7_queue 77 = .ok (.iconst (-1), 1) := by decide +kernel
theorem dX7_queue_78 : decode cX7_queue 78 = .ok (.goto 4, 3) := by decide +kernel
theorem dX7_queue_81 : decode cX7_queue 81 = .ok (.iload_n 2, 1) := by decide +kernel
theorem dX7_queue_82 : decode cX7_queue 82 = .ok (.ireturn, 1) := by decide +kernel
theorem dX7_isPilotReady_0 : decode cX7_isPilotReady 0 = .ok (.iconst 0, 1) := by decide +kernel
theorem dX7_isPilotReady_1 : decode cX7_isPilotReady 1 = .ok (.istore_n 2, 1) := by decide +kernel
theorem dX7_isPilotReady_2 : decode cX7_isPilotReady 2 = .ok (.iconst 0, 1) := by decide +kernel
theorem dX7_isPilotReady_3 : decode cX7_isPilotReady 3 = .ok (.istore_n 3, 1) := by decide +kernel
theorem dX7_isPilotReady_4 : decode cX7_isPilotReady 4 = .ok (.iconst 0, 1) := by decide +kernel
theorem dX7_isPilotReady_5 : decode cX7_isPilotReady 5 = .ok (.istore 4, 2) := by decide +kernel
theorem dX7_isPilotReady_7 : decode cX7_isPilotReady 7 = .ok (.iload 4, 2) := by decide +kernel
theorem dX7_isPilotReady_9 : decode cX7_isPilotReady 9 = .ok (.aload_n 0, 1) := by decide +kernel
theorem dX7_isPilotReady_10 : decode cX7_isPilotReady 10 = .ok (.getfield 82, 3) := by decide +kernel
theorem dX7_isPilotReady_13 : decode cX7_isPilotReady 13 = .ok (.if_icmp .ge 83, 3) := by decide +kernel
theorem dX7_isPilotReady_16 : decode cX7_isPilotReady 16 = .ok (.iload_n 2, 1) := by decide +kernel
theorem dX7_isPilotReady_17 : decode cX7_isPilotReady 17 = .ok (.ifCond .ne 31, 3) := by decide +kernel
theorem dX7_isPilotReady_20 : decode cX7_isPilotReady 20 = .ok (.aload_n 0, 1) := by decide +kernel
theorem dX7_isPilotReady_21 : decode cX7_isPilotReady 21 = .ok (.getfield 61, 3) := by decide +kernel
theorem dX7_isPilotReady_24 : decode cX7_isPilotReady 24 = .ok (.iload 4, 2) := by decide +kernel
theorem dX7_isPilotReady_26 : decode cX7_isPilotReady 26 = .ok (.iaload, 1) := by decide +kernel
theorem dX7_isPilotReady_27 : decode cX7_isPilotReady 27 = .ok (.iload_n 1, 1) := by decide +kernel
theorem dX7_isPilotReady_28 : decode cX7_isPilotReady 28 = .ok (.if_icmp .ne 24, 3) := by decide +kernel
theorem dX7_isPilotReady_31 : decode cX7_isPilotReady 31 = .ok (.aload_n 0, 1) := by decide +kernel
theorem dX7_isPilotReady_32 : decode cX7_isPilotReady 32 = .ok (.getfield 89, 3) := by decide +kernel
theorem dX7_isPilotReady_35 : decode cX7_isPilotReady 35 = .ok (.aload_n 0, 1) := by decide +kernel
theorem dX7_isPilotReady_36 : decode cX7_isPilotReady 36 = .ok (.getfield 55, 3) := by decide +kernel
theorem dX7_isPilotReady_39 : decode cX7_isPilotReady 39 = .ok (.iload 4, 2) := by decide +kernel
theorem dX7_isPilotReady_41 : decode cX7_isPilotReady 41 = .ok (.iaload, 1) := by decide +kernel
theorem dX7_isPilotReady_42 : decode cX7_isPilotReady 42 = .ok (.isub, 1) := by decide +kernel
theorem dX7_isPilotReady_43 : decode cX7_isPilotReady 43 = .ok (.bipush 6, 2) := by decide +kernel
theorem dX7_isPilotReady_45 : decode cX7_isPilotReady 45 = .ok (.if_icmp .ge 7, 3) := by decide +kernel
theorem dX7_isPilotReady_48 : decode cX7_isPilotReady 48 = .ok (.iconst 1, 1) := by decide +kernel
theorem dX7_isPilotReady_49 : decode cX7_isPilotReady 49 = .ok (.goto 4, 3) := by decide +kernel
theorem dX7_isPilotReady_52 : decode cX7_isPilotReady 52 = .ok (.iconst 0, 1) := by decide +kernel
theorem dX7_isPilotReady_53 : decode cX7_isPilotReady 53 = .ok (.istore_n 2, 1) := by decide +kernel
theorem dX7_isPilotReady_54 : decode cX7_isPilotReady 54 = .ok (.iload_n 3, 1) := by decide +kernel
theorem dX7_isPilotReady_55 : decode cX7_isPilotReady 55 = .ok (.aload_n 0, 1) := by decide +kernel
theorem dX7_isPilotReady_56 : decode cX7_isPilotReady 56 = .ok (.getfield 61, 3) := by decide +kernel
theorem dX7_isPilotReady_59 : decode cX7_isPilotReady 59 = .ok (.iload 4, 2) := by decide +kernel
theorem dX7_isPilotReady_61 : decode cX7_isPilotReady 61 = .ok (.iaload, 1) := by decide +kernel
theorem dX7_isPilotReady_62 : decode cX7_isPilotReady 62 = .ok (.iload_n 1, 1) := by decide +kernel
theorem dX7_isPilotReady_63 : decode cX7_isPilotReady 63 = .ok (.if_icmp .ne 24, 3) := by decide +kernel
theorem dX7_isPilotReady_66 : decode cX7_isPilotReady 66 = .ok (.aload_n 0, 1) := by decide +kernel
theorem dX7_isPilotReady_67 : decode cX7_isPilotReady 67 = .ok (.getfield 89, 3) := by decide +kernel
theorem dX7_isPilotReady_70 : decode cX7_isPilotReady 70 = .ok (.aload_n 0, 1) := by decide +kernel
theorem dX7_isPilotReady_71 : decode cX7_isPilotReady 71 = .ok (.getfield 55, 3) := by decide +kernel
theorem dX7_isPilotReady_74 : decode cX7_isPilotReady 74 = .ok (.iload 4, 2) := by decide +kernel
theorem dX7_isPilotReady_76 : decode cX7_isPilotReady 76 = .ok (.iaload, 1) := by decide +kernel
theorem dX7_isPilotReady_77 : decode cX7_isPilotReady 77 = .ok (.isub, 1) := by decide +kernel
theorem dX7_isPilotReady_78 : decode cX7_isPilotReady 78 = .ok (.bipush 24, 2) := by decide +kernel
theorem dX7_isPilotReady_80 : decode cX7_isPilotReady 80 = .ok (.if_icmp .ge 7, 3) := by decide +kernel
theorem dX7_isPilotReady_83 : decode cX7_isPilotReady 83 = .ok (.iconst 1, 1) := by decide +kernel
theorem dX7_isPilotReady_84 : decode cX7_isPilotReady 84 = .ok (.goto 4, 3) := by decide +kernel
theorem dX7_isPilotReady_87 : decode cX7_isPilotReady 87 = .ok (.iconst 0, 1) := by decide +kernel
theorem dX7_isPilotReady_88 : decode cX7_isPilotReady 88 = .ok (.iadd, 1) := by decide +kernel
theorem dX7_isPilotReady_89 : decode cX7_isPilotReady 89 = .ok (.istore_n 3, 1) := by decide +kernel
theorem dX7_isPilotReady_90 : decode cX7_isPilotReady 90 = .ok (.iinc 4 1, 3) := by decide +kernel
theorem dX7_isPilotReady_93 : decode cX7_isPilotReady 93 = .ok (.goto (-86), 3) := by decide +kernel
theorem dX7_isPilotReady_96 : decode cX7_isPilotReady 96 = .ok (.iload_n 2, 1) := by decide +kernel
theorem dX7_isPilotReady_97 : decode cX7_isPilotReady 97 = .ok (.ifCond .ne 12, 3) := by decide +kernel
theorem dX7_isPilotReady_100 : decode cX7_isPilotReady 100 = .ok (.iload_n 3, 1) := by decide +kernel
theorem dX7_isPilotReady_101 : decode cX7_isPilotReady 101 = .ok (.iconst 3, 1) := by decide +kernel
theorem dX7_isPilotReady_102 : decode cX7_isPilotReady 102 = .ok (.if_icmp .ge 7, 3) := by decide +kernel
theorem dX7_isPilotReady_105 : decode cX7_isPilotReady 105 = .ok (.iconst 1, 1) := by decide +kernel
theorem dX7_isPilotReady_106 : decode cX7_isPilotReady 106 = .ok (.goto 4, 3) := by decide +kernel
theorem dX7_isPilotReady_109 : decode cX7_isPilotReady 109 = .ok (.iconst 0, 1) := by decide +kernel
theorem dX7_isPilotReady_110 : decode cX7_isPilotReady 110 = .ok (.ireturn, 1) := by decide +kernel
theorem dX7_tugsNow_0 : decode cX7_tugsNow 0 = .ok (.iconst 0, 1) := by decide +kernel
theorem dX7_tugsNow_1 : decode cX7_tugsNow 1 = .ok (.istore_n 1, 1) := by decide +kernel
theorem dX7_tugsNow_2 : decode cX7_tugsNow 2 = .ok (.iconst 0, 1) := by decide +kernel
theorem dX7_tugsNow_3 : decode cX7_tugsNow 3 = .ok (.istore_n 2, 1) := by decide +kernel
theorem dX7_tugsNow_4 : decode cX7_tugsNow 4 = .ok (.iload_n 2, 1) := by decide +kernel
theorem dX7_tugsNow_5 : decode cX7_tugsNow 5 = .ok (.bipush 6, 2) := by decide +kernel
theorem dX7_tugsNow_7 : decode cX7_tugsNow 7 = .ok (.if_icmp .ge 101, 3) := by decide +kernel
theorem dX7_tugsNow_10 : decode cX7_tugsNow 10 = .ok (.aload_n 0, 1) := by decide +kernel
theorem dX7_tugsNow_11 : decode cX7_tugsNow 11 = .ok (.getfield 89, 3) := by decide +kernel
theorem dX7_tugsNow_14 : decode cX7_tugsNow 14 = .ok (.bipush 8, 2) := by decide +kernel
theorem dX7_tugsNow_16 : decode cX7_tugsNow 16 = .ok (.idiv, 1) := by decide +kernel
theorem dX7_tugsNow_17 : decode cX7_tugsNow 17 = .ok (.iload_n 2, 1) := by decide +kernel
theorem dX7_tugsNow_18 : decode cX7_tugsNow 18 = .ok (.iadd, 1) := by decide +kernel
theorem dX7_tugsNow_19 : decode cX7_tugsNow 19 = .ok (.iconst 3, 1) := by decide +kernel
theorem dX7_tugsNow_20 : decode cX7_tugsNow 20 = .ok (.irem, 1) := by decide +kernel
theorem dX7_tugsNow_21 : decode cX7_tugsNow 21 = .ok (.ifCond .eq 7, 3) := by decide +kernel
theorem dX7_tugsNow_24 : decode cX7_tugsNow 24 = .ok (.iconst 1, 1) := by decide +kernel
theorem dX7_tugsNow_25 : decode cX7_tugsNow 25 = .ok (.goto 4, 3) := by decide +kernel
theorem dX7_tugsNow_28 : decode cX7_tugsNow 28 = .ok (.iconst 0, 1) := by decide +kernel
theorem dX7_tugsNow_29 : decode cX7_tugsNow 29 = .ok (.istore_n 3, 1) := by decide +kernel
theorem dX7_tugsNow_30 : decode cX7_tugsNow 30 = .ok (.iconst 0, 1) := by decide +kernel
theorem dX7_tugsNow_31 : decode cX7_tugsNow 31 = .ok (.istore 4, 2) := by decide +kernel
theorem dX7_tugsNow_33 : decode cX7_tugsNow 33 = .ok (.iload 4, 2) := by decide +kernel
theorem dX7_tugsNow_35 : decode cX7_tugsNow 35 = .ok (.aload_n 0, 1) := by decide +kernel
theorem dX7_tugsNow_36 : decode cX7_tugsNow 36 = .ok (.getfield 82, 3) := by decide +kernel
theorem dX7_tugsNow_39 : decode cX7_tugsNow 39 = .ok (.if_icmp .ge 49, 3) := by decide +kernel
theorem dX7_tugsNow_42 : decode cX7_tugsNow 42 = .ok (.iload_n 3, 1) := by decide +kernel
theorem dX7_tugsNow_43 : decode cX7_tugsNow 43 = .ok (.ifCond .eq 37, 3) := by decide +kernel
theorem dX7_tugsNow_46 : decode cX7_tugsNow 46 = .ok (.aload_n 0, 1) := by decide +kernel
theorem dX7_tugsNow_47 : decode cX7_tugsNow 47 = .ok (.getfield 64, 3) := by decide +kernel
theorem dX7_tugsNow_50 : decode cX7_tugsNow 50 = .ok (.iload 4, 2) := by decide +kernel
theorem dX7_tugsNow_52 : decode cX7_tugsNow 52 = .ok (.iaload, 1) := by decide +kernel
theorem dX7_tugsNow_53 : decode cX7_tugsNow 53 = .ok (.iload_n 2, 1) := by decide +kernel
theorem dX7_tugsNow_54 : decode cX7_tugsNow 54 = .ok (.ishr, 1) := by decide +kernel
theorem dX7_tugsNow_55 : decode cX7_tugsNow 55 = .ok (.iconst 1, 1) := by decide +kernel
theorem dX7_tugsNow_56 : decode cX7_tugsNow 56 = .ok (.iand, 1) := by decide +kernel
theorem dX7_tugsNow_57 : decode cX7_tugsNow 57 = .ok (.ifCond .eq 19, 3) := by decide +kernel
theorem dX7_tugsNow_60 : decode cX7_tugsNow 60 = .ok (.aload_n 0, 1) := by decide +kernel
theorem dX7_tugsNow_61 : decode cX7_tugsNow 61 = .ok (.getfield 89, 3) := by decide +kernel
theorem dX7_tugsNow_64 : decode cX7_tugsNow 64 = .ok (.aload_n 0, 1) := by decide +kernel
theorem dX7_tugsNow_65 : decode cX7_tugsNow 65 = .ok (.getfield 55, 3) := by decide +kernel
theorem dX7_tugsNow_68 : decode cX7_tugsNow 68 = .ok (.iload 4, 2) := by decide +kernel
theorem dX7_tugsNow_70 : decode cX7_tugsNow 70 = .ok (.iaload, 1) := by decide +kernel
theorem dX7_tugsNow_71 : decode cX7_tugsNow 71 = .ok (.isub, 1) := by decide +kernel
theorem dX7_tugsNow_72 : decode cX7_tugsNow 72 = .ok (.iconst 3, 1) := by decide +kernel
theorem dX7_tugsNow_73 : decode cX7_tugsNow 73 = .ok (.if_icmp .lt 7, 3) := by decide +kernel
theorem dX7_tugsNow_76 : decode cX7_tugsNow 76 = .ok (.iconst 1, 1) := by decide +kernel
theorem dX7_tugsNow_77 : decode cX7_tugsNow 77 = .ok (.goto 4, 3) := by decide +kernel
theorem dX7_tugsNow_80 : decode cX7_tugsNow 80 = .ok (.iconst 0, 1) := by decide +kernel
theorem dX7_tugsNow_81 : decode cX7_tugsNow 81 = .ok (.istore_n 3, 1) := by decide +kernel
theorem dX7_tugsNow_82 : decode cX7_tugsNow 82 = .ok (.iinc 4 1, 3) := by decide +kernel
theorem dX7_tugsNow_85 : decode cX7_tugsNow 85 = .ok (.goto (-52), 3) := by decide +kernel
theorem dX7_tugsNow_88 : decode cX7_tugsNow 88 = .ok (.iload_n 1, 1) := by decide +kernel
theorem dX7_tugsNow_89 : decode cX7_tugsNow 89 = .ok (.iload_n 3, 1) := by decide +kernel
theorem dX7_tugsNow_90 : decode cX7_tugsNow 90 = .ok (.ifCond .eq 9, 3) := by decide +kernel
theorem dX7_tugsNow_93 : decode cX7_tugsNow 93 = .ok (.iconst 1, 1) := by decide +kernel
theorem dX7_tugsNow_94 : decode cX7_tugsNow 94 = .ok (.iload_n 2, 1) := by decide +kernel
theorem dX7_tugsNow_95 : decode cX7_tugsNow 95 = .ok (.ishl, 1) := by decide +kernel
theorem dX7_tugsNow_96 : decode cX7_tugsNow 96 = .ok (.goto 4, 3) := by decide +kernel
theorem dX7_tugsNow_99 : decode cX7_tugsNow 99 = .ok (.iconst 0, 1) := by decide +kernel
theorem dX7_tugsNow_100 : decode cX7_tugsNow 100 = .ok (.ior, 1) := by decide +kernel
theorem dX7_tugsNow_101 : decode cX7_tugsNow 101 = .ok (.istore_n 1, 1) := by decide +kernel
theorem dX7_tugsNow_102 : decode cX7_tugsNow 102 = .ok (.iinc 2 1, 3) := by decide +kernel
theorem dX7_tugsNow_105 : decode cX7_tugsNow 105 = .ok (.goto (-101), 3) := by decide +kernel
theorem dX7_tugsNow_108 : decode cX7_tugsNow 108 = .ok (.iload_n 1, 1) := by decide +kernel
theorem dX7_tugsNow_109 : decode cX7_tugsNow 109 = .ok (.ireturn, 1) := by decide +kernel
theorem dX7_firstReady_0 : decode cX7_firstReady 0 = .ok (.iconst (-1), 1) := by decide +kernel
theorem dX7_firstReady_1 : decode cX7_firstReady 1 = .ok (.istore_n 1, 1) := by decide +kernel
theorem dX7_firstReady_2 : decode cX7_firstReady 2 = .ok (.iconst 5, 1) := by decide +kernel
theorem dX7_firstReady_3 : decode cX7_firstReady 3 = .ok (.istore_n 2, 1) := by decide +kernel
theorem dX7_firstReady_4 : decode cX7_firstReady 4 = .ok (.iload_n 2, 1) := by decide +kernel
theorem dX7_firstReady_5 : decode cX7_firstReady 5 = .ok (.ifCond .lt 28, 3) := by decide +kernel
theorem dX7_firstReady_8 : decode cX7_firstReady 8 = .ok (.aload_n 0, 1) := by decide +kernel
theorem dX7_firstReady_9 : decode cX7_firstReady 9 = .ok (.aload_n 0, 1) := by decide +kernel
theorem dX7_firstReady_10 : decode cX7_firstReady 10 = .ok (.getfield 49, 3) := by decide +kernel
theorem dX7_firstReady_13 : decode cX7_firstReady 13 = .ok (.iload_n 2, 1) := by decide +kernel
theorem dX7_firstReady_14 : decode cX7_firstReady 14 = .ok (.iaload, 1) := by decide +kernel
theorem dX7_firstReady_15 : decode cX7_firstReady 15 = .ok (.invokevirtual 113, 3) := by decide +kernel
theorem dX7_firstReady_18 : decode cX7_firstReady 18 = .ok (.ifCond .eq 7, 3) := by decide +kernel
theorem dX7_firstReady_21 : decode cX7_firstReady 21 = .ok (.iload_n 2, 1) := by decide +kernel
theorem dX7_firstReady_22 : decode cX7_firstReady 22 = .ok (.goto 4, 3) := by decide +kernel
theorem dX7_firstReady_25 : decode cX7_firstReady 25 = .ok (.iload_n 1, 1) := by decide +kernel
theorem dX7_firstReady_26 : decode cX7_firstReady 26 = .ok (.istore_n 1, 1) := by decide +kernel
theorem dX7_firstReady_27 : decode cX7_firstReady 27 = .ok (.iinc 2 (-1), 3) := by decide +kernel
theorem dX7_firstReady_30 : decode cX7_firstReady 30 = .ok (.goto (-26), 3) := by decide +kernel
theorem dX7_firstReady_33 : decode cX7_firstReady 33 = .ok (.iload_n 1, 1) := by decide +kernel
theorem dX7_firstReady_34 : decode cX7_firstReady 34 = .ok (.ireturn, 1) := by decide +kernel
theorem dX7_placeOf_0 : decode cX7_placeOf 0 = .ok (.iconst (-1), 1) := by decide +kernel
theorem dX7_placeOf_1 : decode cX7_placeOf 1 = .ok (.istore_n 2, 1) := by decide +kernel
theorem dX7_placeOf_2 : decode cX7_placeOf 2 = .ok (.iconst 0, 1) := by decide +kernel
theorem dX7_placeOf_3 : decode cX7_placeOf 3 = .ok (.istore_n 3, 1) := by decide +kernel
theorem dX7_placeOf_4 : decode cX7_placeOf 4 = .ok (.iload_n 3, 1) := by decide +kernel
theorem dX7_placeOf_5 : decode cX7_placeOf 5 = .ok (.bipush 6, 2) := by decide +kernel
theorem dX7_placeOf_7 : decode cX7_placeOf 7 = .ok (.if_icmp .ge 25, 3) := by decide +kernel
theorem dX7_placeOf_10 : decode cX7_placeOf 10 = .ok (.aload_n 0, 1) := by decide +kernel
theorem dX7_placeOf_11 : decode cX7_placeOf 11 = .ok (.getfield 49, 3) := by decide +kernel
theorem dX7_placeOf_14 : decode cX7_placeOf 14 = .ok (.iload_n 3, 1) := by decide +kernel
theorem dX7_placeOf_15 : decode cX7_placeOf 15 = .ok (.iaload, 1) := by decide +kernel
theorem dX7_placeOf_16 : decode cX7_placeOf 16 = .ok (.iload_n 1, 1) := by decide +kernel
theorem dX7_placeOf_17 : decode cX7_placeOf 17 = .ok (.if_icmp .ne 7, 3) := by decide +kernel
theorem dX7_placeOf_20 : decode cX7_placeOf 20 = .ok (.iload_n 3, 1) := by decide +kernel
theorem dX7_placeOf_21 : decode cX7_placeOf 21 = .ok (.goto 4, 3) := by decide +kernel
theorem dX7_placeOf_24 : decode cX7_placeOf 24 = .ok (.iload_n 2, 1) := by decide +kernel
theorem dX7_placeOf_25 : decode cX7_placeOf 25 = .ok (.istore_n 2, 1) := by decide +kernel
theorem dX7_placeOf_26 : decode cX7_placeOf 26 = .ok (.iinc 3 1, 3) := by decide +kernel
theorem dX7_placeOf_29 : decode cX7_placeOf 29 = .ok (.goto (-25), 3) := by decide +kernel
theorem dX7_placeOf_32 : decode cX7_placeOf 32 = .ok (.iload_n 2, 1) := by decide +kernel
theorem dX7_placeOf_33 : decode cX7_placeOf 33 = .ok (.ireturn, 1) := by decide +kernel
theorem dX7_isPilot_0 : decode cX7_isPilot 0 = .ok (.iload_n 0, 1) := by decide +kernel
theorem dX7_isPilot_1 : decode cX7_isPilot 1 = .ok (.iconst 0, 1) := by decide +kernel
theorem dX7_isPilot_2 : decode cX7_isPilot 2 = .ok (.iconst 5, 1) := by decide +kernel
theorem dX7_isPilot_3 : decode cX7_isPilot 3 = .ok (.invokestatic 78, 3) := by decide +kernel
theorem dX7_isPilot_6 : decode cX7_isPilot 6 = .ok (.ireturn, 1) := by decide +kernel
theorem dX7_swap_0 : decode cX7_swap 0 = .ok (.aload_n 0, 1) := by decide +kernel
theorem dX7_swap_1 : decode cX7_swap 1 = .ok (.iload_n 1, 1) := by decide +kernel
theorem dX7_swap_2 : decode cX7_swap 2 = .ok (.invokestatic 116, 3) := by decide +kernel
theorem dX7_swap_5 : decode cX7_swap 5 = .ok (.ifCond .eq 10, 3) := by decide +kernel
theorem dX7_swap_8 : decode cX7_swap 8 = .ok (.iload_n 2, 1) := by decide +kernel
theorem dX7_swap_9 : decode cX7_swap 9 = .ok (.invokestatic 116, 3) := by decide +kernel
theorem dX7_swap_12 : decode cX7_swap 12 = .ok (.ifCond .ne 7, 3) := by decide +kernel
theorem dX7_swap_15 : decode cX7_swap 15 = .ok (.iconst 1, 1) := by decide +kernel
theorem dX7_swap_16 : decode cX7_swap 16 = .ok (.goto 13, 3) := by decide +kernel
theorem dX7_swap_19 : decode cX7_swap 19 = .ok (.iload_n 1, 1) := by decide +kernel
theorem dX7_swap_20 : decode cX7_swap 20 = .ok (.iload_n 2, 1) := by decide +kernel
theorem dX7_swap_21 : decode cX7_swap 21 = .ok (.if_icmp .ne 7, 3) := by decide +kernel
theorem dX7_swap_24 : decode cX7_swap 24 = .ok (.iconst 2, 1) := by decide +kernel
theorem dX7_swap_25 : decode cX7_swap 25 = .ok (.goto 4, 3) := by decide +kernel
theorem dX7_swap_28 : decode cX7_swap 28 = .ok (.iconst 0, 1) := by decide +kernel
theorem dX7_swap_29 : decode cX7_swap 29 = .ok (.invokevirtual 85, 3) := by decide +kernel
theorem dX7_swap_32 : decode cX7_swap 32 = .ok (.ifCond .ne 5, 3) := by decide +kernel
theorem dX7_swap_35 : decode cX7_swap 35 = .ok (.iconst 0, 1) := by decide +kernel
theorem dX7_swap_36 : decode cX7_swap 36 = .ok (.ireturn, 1) := by decide +kernel
theorem dX7_swap_37 : decode cX7_swap 37 = .ok (.aload_n 0, 1) := by decide +kernel
theorem dX7_swap_38 : decode cX7_swap 38 = .ok (.iload_n 1, 1) := by decide +kernel
theorem dX7_swap_39 : decode cX7_swap 39 = .ok (.invokevirtual 119, 3) := by decide +kernel
theorem dX7_swap_42 : decode cX7_swap 42 = .ok (.istore_n 3, 1) := by decide +kernel
theorem dX7_swap_43 : decode cX7_swap 43 = .ok (.aload_n 0, 1) := by decide +kernel
theorem dX7_swap_44 : decode cX7_swap 44 = .ok (.iload_n 2, 1) := by decide +kernel
theorem dX7_swap_45 : decode cX7_swap 45 = .ok (.invokevirtual 119, 3) := by decide +kernel
theorem dX7_swap_48 : decode cX7_swap 48 = .ok (.istore 4, 2) := by decide +kernel
theorem dX7_swap_50 : decode cX7_swap 50 = .ok (.aload_n 0, 1) := by decide +kernel
theorem dX7_swap_51 : decode cX7_swap 51 = .ok (.getfield 49, 3) := by decide +kernel
theorem dX7_swap_54 : decode cX7_swap 54 = .ok (.iload_n 3, 1) := by decide +kernel
theorem dX7_swap_55 : decode cX7_swap 55 = .ok (.iload_n 2, 1) := by decide +kernel
theorem dX7_swap_56 : decode cX7_swap 56 = .ok (.iastore, 1) := by decide +kernel
theorem dX7_swap_57 : decode cX7_swap 57 = .ok (.aload_n 0, 1) := by decide +kernel
theorem dX7_swap_58 : decode cX7_swap 58 = .ok (.getfield 49, 3) := by decide +kernel
theorem dX7_swap_61 : decode cX7_swap 61 = .ok (.iload 4, 2) := by decide +kernel
theorem dX7_swap_63 : decode cX7_swap 63 = .ok (.iload_n 1, 1) := by decide +kernel
theorem dX7_swap_64 : decode cX7_swap 64 = .ok (.iastore, 1) := by decide +kernel
theorem dX7_swap_65 : decode cX7_swap 65 = .ok (.iload 4, 2) := by decide +kernel
theorem dX7_swap_67 : decode cX7_swap 67 = .ok (.ireturn, 1) := by decide +kernel
theorem dX7_rota_0 : decode cX7_rota 0 = .ok (.aload_n 0, 1) := by decide +kernel
theorem dX7_rota_1 : decode cX7_rota 1 = .ok (.iload_n 1, 1) := by decide +kernel
theorem dX7_rota_2 : decode cX7_rota 2 = .ok (.invokestatic 116, 3) := by decide +kernel
theorem dX7_rota_5 : decode cX7_rota 5 = .ok (.ifCond .eq 7, 3) := by decide +kernel
theorem dX7_rota_8 : decode cX7_rota 8 = .ok (.iconst 0, 1) := by decide +kernel
theorem dX7_rota_9 : decode cX7_rota 9 = .ok (.goto 4, 3) := by decide +kernel
theorem dX7_rota_12 : decode cX7_rota 12 = .ok (.iconst 1, 1) := by decide +kernel
theorem dX7_rota_13 : decode cX7_rota 13 = .ok (.invokevirtual 85, 3) := by decide +kernel
theorem dX7_rota_16 : decode cX7_rota 16 = .ok (.ifCond .eq 12, 3) := by decide +kernel
theorem dX7_rota_19 : decode cX7_rota 19 = .ok (.aload_n 0, 1) := by decide +kernel
theorem dX7_rota_20 : decode cX7_rota 20 = .ok (.getfield 49, 3) := by decide +kernel
theorem dX7_rota_23 : decode cX7_rota 23 = .ok (.iload_n 1, 1) := by decide +kernel
theorem dX7_rota_24 : decode cX7_rota 24 = .ok (.iaload, 1) := by decide +kernel
theorem dX7_rota_25 : decode cX7_rota 25 = .ok (.goto 4, 3) := by decide +kernel
theorem dX7_rota_28 : decode cX7_rota 28 = .ok (.iconst 0, 1) := by decide +kernel
theorem dX7_rota_29 : decode cX7_rota 29 = .ok (.ireturn, 1) := by decide +kernel
theorem dX7_isReady_0 : decode cX7_isReady 0 = .ok (.aload_n 0, 1) := by decide +kernel
theorem dX7_isReady_1 : decode cX7_isReady 1 = .ok (.iload_n 1, 1) := by decide +kernel
theorem dX7_isReady_2 : decode cX7_isReady 2 = .ok (.invokestatic 116, 3) := by decide +kernel
theorem dX7_isReady_5 : decode cX7_isReady 5 = .ok (.ifCond .eq 7, 3) := by decide +kernel
theorem dX7_isReady_8 : decode cX7_isReady 8 = .ok (.iconst 0, 1) := by decide +kernel
theorem dX7_isReady_9 : decode cX7_isReady 9 = .ok (.goto 4, 3) := by decide +kernel
theorem dX7_isReady_12 : decode cX7_isReady 12 = .ok (.iconst 1, 1) := by decide +kernel
theorem dX7_isReady_13 : decode cX7_isReady 13 = .ok (.invokevirtual 85, 3) := by decide +kernel
theorem dX7_isReady_16 : decode cX7_isReady 16 = .ok (.ifCond .eq 15, 3) := by decide +kernel
theorem dX7_isReady_19 : decode cX7_isReady 19 = .ok (.aload_n 0, 1) := by decide +kernel
theorem dX7_isReady_20 : decode cX7_isReady 20 = .ok (.iload_n 1, 1) := by decide +kernel
theorem dX7_isReady_21 : decode cX7_isReady 21 = .ok (.invokevirtual 113, 3) := by decide +kernel
theorem dX7_isReady_24 : decode cX7_isReady 24 = .ok (.ifCond .eq 7, 3) := by decide +kernel
theorem dX7_isReady_27 : decode cX7_isReady 27 = .ok (.iconst 1, 1) := by decide +kernel
theorem dX7_isReady_28 : decode cX7_isReady 28 = .ok (.goto 4, 3) := by decide +kernel
theorem dX7_isReady_31 : decode cX7_isReady 31 = .ok (.iconst 0, 1) := by decide +kernel
theorem dX7_isReady_32 : decode cX7_isReady 32 = .ok (.ireturn, 1) := by decide +kernel
theorem dX7_tugs_0 : decode cX7_tugs 0 = .ok (.aload_n 0, 1) := by decide +kernel
theorem dX7_tugs_1 : decode cX7_tugs 1 = .ok (.iconst 0, 1) := by decide +kernel
theorem dX7_tugs_2 : decode cX7_tugs 2 = .ok (.putfield 71, 3) := by decide +kernel
theorem dX7_tugs_5 : decode cX7_tugs 5 = .ok (.aload_n 0, 1) := by decide +kernel
theorem dX7_tugs_6 : decode cX7_tugs 6 = .ok (.invokevirtual 122, 3) := by decide +kernel
theorem dX7_tugs_9 : decode cX7_tugs 9 = .ok (.ireturn, 1) := by decide +kernel
theorem dX7_isFree_0 : decode cX7_isFree 0 = .ok (.iconst 1, 1) := by decide +kernel
theorem dX7_isFree_1 : decode cX7_isFree 1 = .ok (.istore_n 2, 1) := by decide +kernel
theorem dX7_isFree_2 : decode cX7_isFree 2 = .ok (.iconst 0, 1) := by decide +kernel
theorem dX7_isFree_3 : decode cX7_isFree 3 = .ok (.istore_n 3, 1) := by decide +kernel
theorem dX7_isFree_4 : decode cX7_isFree 4 = .ok (.iload_n 3, 1) := by decide +kernel
theorem dX7_isFree_5 : decode cX7_isFree 5 = .ok (.aload_n 0, 1) := by decide +kernel
theorem dX7_isFree_6 : decode cX7_isFree 6 = .ok (.getfield 75, 3) := by decide +kernel
theorem dX7_isFree_9 : decode cX7_isFree 9 = .ok (.if_icmp .ge 48, 3) := by decide +kernel
theorem dX7_isFree_12 : decode cX7_isFree 12 = .ok (.iload_n 2, 1) := by decide +kernel
theorem dX7_isFree_13 : decode cX7_isFree 13 = .ok (.ifCond .eq 36, 3) := by decide +kernel
theorem dX7_isFree_16 : decode cX7_isFree 16 = .ok (.aload_n 0, 1) := by decide +kernel
theorem dX7_isFree_17 : decode cX7_isFree 17 = .ok (.getfield 28, 3) := by decide +kernel
theorem dX7_isFree_20 : decode cX7_isFree 20 = .ok (.iload_n 3, 1) := by decide +kernel
theorem dX7_isFree_21 : decode cX7_isFree 21 = .ok (.iaload, 1) := by decide +kernel
theorem dX7_isFree_22 : decode cX7_isFree 22 = .ok (.iload_n 1, 1) := by decide +kernel
theorem dX7_isFree_23 : decode cX7_isFree 23 = .ok (.if_icmp .ne 22, 3) := by decide +kernel
theorem dX7_isFree_26 : decode cX7_isFree 26 = .ok (.aload_n 0, 1) := by decide +kernel
theorem dX7_isFree_27 : decode cX7_isFree 27 = .ok (.getfield 31, 3) := by decide +kernel
theorem dX7_isFree_30 : decode cX7_isFree 30 = .ok (.iload_n 3, 1) := by decide +kernel
theorem dX7_isFree_31 : decode cX7_isFree 31 = .ok (.iaload, 1) := by decide +kernel
theorem dX7_isFree_32 : decode cX7_isFree 32 = .ok (.ifCond .eq 13, 3) := by decide +kernel
theorem dX7_isFree_35 : decode cX7_isFree 35 = .ok (.aload_n 0, 1) := by decide +kernel
theorem dX7_isFree_36 : decode cX7_isFree 36 = .ok (.getfield 31, 3) := by decide +kernel
theorem dX7_isFree_39 : decode cX7_isFree 39 = .ok (.iload_n 3, 1) := by decide +kernel
theorem dX7_isFree_40 : decode cX7_isFree 40 = .ok (.iaload, 1) := by decide +kernel
theorem dX7_isFree_41 : decode cX7_isFree 41 = .ok (.iconst 4, 1) := by decide +kernel
theorem dX7_isFree_42 : decode cX7_isFree 42 = .ok (.if_icmp .ne 7, 3) := by decide +kernel
theorem dX7_isFree_45 : decode cX7_isFree 45 = .ok (.iconst 1, 1) := by decide +kernel
theorem dX7_isFree_46 : decode cX7_isFree 46 = .ok (.goto 4, 3) := by decide +kernel
theorem dX7_isFree_49 : decode cX7_isFree 49 = .ok (.iconst 0, 1) := by decide +kernel
theorem dX7_isFree_50 : decode cX7_isFree 50 = .ok (.istore_n 2, 1) := by decide +kernel
theorem dX7_isFree_51 : decode cX7_isFree 51 = .ok (.iinc 3 1, 3) := by decide +kernel
theorem dX7_isFree_54 : decode cX7_isFree 54 = .ok (.goto (-50), 3) := by decide +kernel
theorem dX7_isFree_57 : decode cX7_isFree 57 = .ok (.iload_n 2, 1) := by decide +kernel
theorem dX7_isFree_58 : decode cX7_isFree 58 = .ok (.ireturn, 1) := by decide +kernel
theorem dX7_many_0 : decode cX7_many 0 = .ok (.iconst 0, 1) := by decide +kernel
theorem dX7_many_1 : decode cX7_many 1 = .ok (.istore_n 1, 1) := by decide +kernel
theorem dX7_many_2 : decode cX7_many 2 = .ok (.iload_n 0, 1) := by decide +kernel
theorem dX7_many_3 : decode cX7_many 3 = .ok (.istore_n 2, 1) := by decide +kernel
theorem dX7_many_4 : decode cX7_many 4 = .ok (.iload_n 2, 1) := by decide +kernel
theorem dX7_many_5 : decode cX7_many 5 = .ok (.ifCond .le 16, 3) := by decide +kernel
theorem dX7_many_8 : decode cX7_many 8 = .ok (.iload_n 1, 1) := by decide +kernel
theorem dX7_many_9 : decode cX7_many 9 = .ok (.iload_n 2, 1) := by decide +kernel
theorem dX7_many_10 : decode cX7_many 10 = .ok (.iconst 2, 1) := by decide +kernel
theorem dX7_many_11 : decode cX7_many 11 = .ok (.irem, 1) := by decide +kernel
theorem dX7_many_12 : decode cX7_many 12 = .ok (.iadd, 1) := by decide +kernel
theorem dX7_many_13 : decode cX7_many 13 = .ok (.istore_n 1, 1) := by decide +kernel
theorem dX7_many_14 : decode cX7_many 14 = .ok (.iload_n 2, 1) := by decide +kernel
theorem dX7_many_15 : decode cX7_many 15 = .ok (.iconst 2, 1) := by decide +kernel
theorem dX7_many_16 : decode cX7_many 16 = .ok (.idiv, 1) := by decide +kernel
theorem dX7_many_17 : decode cX7_many 17 = .ok (.istore_n 2, 1) := by decide +kernel
theorem dX7_many_18 : decode cX7_many 18 = .ok (.goto (-14), 3) := by decide +kernel
theorem dX7_many_21 : decode cX7_many 21 = .ok (.iload_n 1, 1) := by decide +kernel
theorem dX7_many_22 : decode cX7_many 22 = .ok (.ireturn, 1) := by decide +kernel
theorem dX7_lowest_0 : decode cX7_lowest 0 = .ok (.iconst 0, 1) := by decide +kernel
theorem dX7_lowest_1 : decode cX7_lowest 1 = .ok (.istore_n 2, 1) := by decide +kernel
theorem dX7_lowest_2 : decode cX7_lowest 2 = .ok (.iconst 0, 1) := by decide +kernel
theorem dX7_lowest_3 : decode cX7_lowest 3 = .ok (.istore_n 3, 1) := by decide +kernel
theorem dX7_lowest_4 : decode cX7_lowest 4 = .ok (.iconst 0, 1) := by decide +kernel
theorem dX7_lowest_5 : decode cX7_lowest 5 = .ok (.istore 4, 2) := by decide +kernel
theorem dX7_lowest_7 : decode cX7_lowest 7 = .ok (.iload 4, 2) := by decide +kernel
theorem dX7_lowest_9 : decode cX7_lowest 9 = .ok (.bipush 6, 2) := by decide +kernel
theorem dX7_lowest_11 : decode cX7_lowest 11 = .ok (.if_icmp .ge 60, 3) := by decide +kernel
theorem dX7_lowest_14 : decode cX7_lowest 14 = .ok (.iload_n 0, 1) := by decide +kernel
theorem dX7_lowest_15 : decode cX7_lowest 15 = .ok (.iload 4, 2) := by decide +kernel
theorem dX7_lowest_17 : decode cX7_lowest 17 = .ok (.ishr, 1) := by decide +kernel
theorem dX7_lowest_18 : decode cX7_lowest 18 = .ok (.iconst 1, 1) := by decide +kernel
theorem dX7_lowest_19 : decode cX7_lowest 19 = .ok (.iand, 1) := by decide +kernel
theorem dX7_lowest_20 : decode cX7_lowest 20 = .ok (.iconst 1, 1) := by decide +kernel
theorem dX7_lowest_21 : decode cX7_lowest 21 = .ok (.if_icmp .ne 12, 3) := by decide +kernel
theorem dX7_lowest_24 : decode cX7_lowest 24 = .ok (.iload_n 3, 1) := by decide +kernel
theorem dX7_lowest_25 : decode cX7_lowest 25 = .ok (.iload_n 1, 1) := by decide +kernel
theorem dX7_lowest_26 : decode cX7_lowest 26 = .ok (.if_icmp .ge 7, 3) := by decide +kernel
theorem dX7_lowest_29 : decode cX7_lowest 29 = .ok (.iconst 1, 1) := by decide +kernel
theorem dX7_lowest_30 : decode cX7_lowest 30 = .ok (.goto 4, 3) := by decide +kernel
theorem dX7_lowest_33 : decode cX7_lowest 33 = .ok (.iconst 0, 1) := by decide +kernel
theorem dX7_lowest_34 : decode cX7_lowest 34 = .ok (.istore 5, 2) := by decide +kernel
theorem dX7_lowest_36 : decode cX7_lowest 36 = .ok (.iload_n 2, 1) := by decide +kernel
theorem dX7_lowest_37 : decode cX7_lowest 37 = .ok (.iload 5, 2) := by decide +kernel
theorem dX7_lowest_39 : decode cX7_lowest 39 = .ok (.ifCond .eq 10, 3) := by decide +kernel
theorem dX7_lowest_42 : decode cX7_lowest 42 = .ok (.iconst 1, 1) := by decide +kernel
theorem dX7_lowest_43 : decode cX7_lowest 43 = .ok (.iload 4, 2) := by decide +kernel
theorem dX7_lowest_45 : decode cX7_lowest 45 = .ok (.ishl, 1) := by decide +kernel
theorem dX7_lowest_46 : decode cX7_lowest 46 = .ok (.goto 4, 3) := by decide +kernel
theorem dX7_lowest_49 : decode cX7_lowest 49 = .ok (.iconst 0, 1) := by decide +kernel
theorem dX7_lowest_50 : decode cX7_lowest 50 = .ok (.ior, 1) := by decide +kernel
theorem dX7_lowest_51 : decode cX7_lowest 51 = .ok (.istore_n 2, 1) := by decide +kernel
theorem dX7_lowest_52 : decode cX7_lowest 52 = .ok (.iload_n 3, 1) := by decide +kernel
theorem dX7_lowest_53 : decode cX7_lowest 53 = .ok (.iload 5, 2) := by decide +kernel
theorem dX7_lowest_55 : decode cX7_lowest 55 = .ok (.ifCond .eq 7, 3) := by decide +kernel
theorem dX7_lowest_58 : decode cX7_lowest 58 = .ok (.iconst 1, 1) := by decide +kernel
theorem dX7_lowest_59 : decode cX7_lowest 59 = .ok (.goto 4, 3) := by decide +kernel
theorem dX7_lowest_62 : decode cX7_lowest 62 = .ok (.iconst 0, 1) := by decide +kernel
theorem dX7_lowest_63 : decode cX7_lowest 63 = .ok (.iadd, 1) := by decide +kernel
theorem dX7_lowest_64 : decode cX7_lowest 64 = .ok (.istore_n 3, 1) := by decide +kernel
theorem dX7_lowest_65 : decode cX7_lowest 65 = .ok (.iinc 4 1, 3) := by decide +kernel
theorem dX7_lowest_68 : decode cX7_lowest 68 = .ok (.goto (-61), 3) := by decide +kernel
theorem dX7_lowest_71 : decode cX7_lowest 71 = .ok (.iload_n 2, 1) := by decide +kernel
theorem dX7_lowest_72 : decode cX7_lowest 72 = .ok (.ireturn, 1) := by decide +kernel
theorem dX7_pays_0 : decode cX7_pays 0 = .ok (.aload_n 0, 1) := by decide +kernel
theorem dX7_pays_1 : decode cX7_pays 1 = .ok (.getfield 40, 3) := by decide +kernel
theorem dX7_pays_4 : decode cX7_pays 4 = .ok (.iload_n 1, 1) := by decide +kernel
theorem dX7_pays_5 : decode cX7_pays 5 = .ok (.dup2, 1) := by decide +kernel
theorem dX7_pays_6 : decode cX7_pays 6 = .ok (.iaload, 1) := by decide +kernel
theorem dX7_pays_7 : decode cX7_pays 7 = .ok (.iload_n 2, 1) := by decide +kernel
theorem dX7_pays_8 : decode cX7_pays 8 = .ok (.iadd, 1) := by decide +kernel
theorem dX7_pays_9 : decode cX7_pays 9 = .ok (.iastore, 1) := by decide +kernel
theorem dX7_pays_10 : decode cX7_pays 10 = .ok (.return_, 1) := by decide +kernel
theorem dX7_loses_0 : decode cX7_loses 0 = .ok (.aload_n 0, 1) := by decide +kernel
theorem dX7_loses_1 : decode cX7_loses 1 = .ok (.iload_n 1, 1) := by decide +kernel
theorem dX7_loses_2 : decode cX7_loses 2 = .ok (.bipush 100, 2) := by decide +kernel
theorem dX7_loses_4 : decode cX7_loses 4 = .ok (.invokevirtual 125, 3) := by decide +kernel
theorem dX7_loses_7 : decode cX7_loses 7 = .ok (.aload_n 0, 1) := by decide +kernel
theorem dX7_loses_8 : decode cX7_loses 8 = .ok (.getfield 52, 3) := by decide +kernel
theorem dX7_loses_11 : decode cX7_loses 11 = .ok (.aload_n 0, 1) := by decide +kernel
theorem dX7_loses_12 : decode cX7_loses 12 = .ok (.getfield 49, 3) := by decide +kernel
theorem dX7_loses_15 : decode cX7_loses 15 = .ok (.iconst 0, 1) := by decide +kernel
theorem dX7_loses_16 : decode cX7_loses 16 = .ok (.iaload, 1) := by decide +kernel
theorem dX7_loses_17 : decode cX7_loses 17 = .ok (.dup2, 1) := by decide +kernel
theorem dX7_loses_18 : decode cX7_loses 18 = .ok (.iaload, 1) := by decide +kernel
theorem dX7_loses_19 : decode cX7_loses 19 = .ok (.bipush 50, 2) := by decide +kernel
theorem dX7_loses_21 : decode cX7_loses 21 = .ok (.iadd, 1) := by decide +kernel
theorem dX7_loses_22 : decode cX7_loses 22 = .ok (.iastore, 1) := by decide +kernel
theorem dX7_loses_23 : decode cX7_loses 23 = .ok (.aload_n 0, 1) := by decide +kernel
theorem dX7_loses_24 : decode cX7_loses 24 = .ok (.getfield 52, 3) := by decide +kernel
theorem dX7_loses_27 : decode cX7_loses 27 = .ok (.aload_n 0, 1) := by decide +kernel
theorem dX7_loses_28 : decode cX7_loses 28 = .ok (.getfield 49, 3) := by decide +kernel
theorem dX7_loses_31 : decode cX7_loses 31 = .ok (.iconst 1, 1) := by decide +kernel
theorem dX7_loses_32 : decode cX7_loses 32 = .ok (.iaload, 1) := by decide +kernel
theorem dX7_loses_33 : decode cX7_loses 33 = .ok (.dup2, 1) := by decide +kernel
theorem dX7_loses_34 : decode cX7_loses 34 = .ok (.iaload, 1) := by decide +kernel
theorem dX7_loses_35 : decode cX7_loses 35 = .ok (.bipush 50, 2) := by decide +kernel
theorem dX7_loses_37 : decode cX7_loses 37 = .ok (.iadd, 1) := by decide +kernel
theorem dX7_loses_38 : decode cX7_loses 38 = .ok (.iastore, 1) := by decide +kernel
theorem dX7_loses_39 : decode cX7_loses 39 = .ok (.aload_n 0, 1) := by decide +kernel
theorem dX7_loses_40 : decode cX7_loses 40 = .ok (.getfield 43, 3) := by decide +kernel
theorem dX7_loses_43 : decode cX7_loses 43 = .ok (.iload_n 1, 1) := by decide +kernel
theorem dX7_loses_44 : decode cX7_loses 44 = .ok (.dup2, 1) := by decide +kernel
theorem dX7_loses_45 : decode cX7_loses 45 = .ok (.iaload, 1) := by decide +kernel
theorem dX7_loses_46 : decode cX7_loses 46 = .ok (.iconst 1, 1) := by decide +kernel
theorem dX7_loses_47 : decode cX7_loses 47 = .ok (.iadd, 1) := by decide +kernel
theorem dX7_loses_48 : decode cX7_loses 48 = .ok (.iastore, 1) := by decide +kernel
theorem dX7_loses_49 : decode cX7_loses 49 = .ok (.aload_n 0, 1) := by decide +kernel
theorem dX7_loses_50 : decode cX7_loses 50 = .ok (.getfield 34, 3) := by decide +kernel
theorem dX7_loses_53 : decode cX7_loses 53 = .ok (.iload_n 1, 1) := by decide +kernel
theorem dX7_loses_54 : decode cX7_loses 54 = .ok (.iconst (-1), 1) := by decide +kernel
theorem dX7_loses_55 : decode cX7_loses 55 = .ok (.iastore, 1) := by decide +kernel
theorem dX7_loses_56 : decode cX7_loses 56 = .ok (.return_, 1) := by decide +kernel
theorem dX7_begins_0 : decode cX7_begins 0 = .ok (.aload_n 0, 1) := by decide +kernel
theorem dX7_begins_1 : decode cX7_begins 1 = .ok (.invokevirtual 129, 3) := by decide +kernel
theorem dX7_begins_4 : decode cX7_begins 4 = .ok (.istore_n 2, 1) := by decide +kernel
theorem dX7_begins_5 : decode cX7_begins 5 = .ok (.aload_n 0, 1) := by decide +kernel
theorem dX7_begins_6 : decode cX7_begins 6 = .ok (.getfield 49, 3) := by decide +kernel
theorem dX7_begins_9 : decode cX7_begins 9 = .ok (.iload_n 2, 1) := by decide +kernel
theorem dX7_begins_10 : decode cX7_begins 10 = .ok (.iaload, 1) := by decide +kernel
theorem dX7_begins_11 : decode cX7_begins 11 = .ok (.istore_n 3, 1) := by decide +kernel
theorem dX7_begins_12 : decode cX7_begins 12 = .ok (.iload_n 2, 1) := by decide +kernel
theorem dX7_begins_13 : decode cX7_begins 13 = .ok (.istore 4, 2) := by decide +kernel
theorem dX7_begins_15 : decode cX7_begins 15 = .ok (.iload 4, 2) := by decide +kernel
theorem dX7_begins_17 : decode cX7_begins 17 = .ok (.iconst 5, 1) := by decide +kernel
theorem dX7_begins_18 : decode cX7_begins 18 = .ok (.if_icmp .ge 25, 3) := by decide +kernel
theorem dX7_begins_21 : decode cX7_begins 21 = .ok (.aload_n 0, 1) := by decide +kernel
theorem dX7_begins_22 : decode cX7_begins 22 = .ok (.getfield 49, 3) := by decide +kernel
theorem dX7_begins_25 : decode cX7_begins 25 = .ok (.iload 4, 2) := by decide +kernel
theorem dX7_begins_27 : decode cX7_begins 27 = .ok (.aload_n 0, 1) := by decide +kernel
theorem dX7_begins_28 : decode cX7_begins 28 = .ok (.getfield 49, 3) := by decide +kernel
theorem dX7_begins_31 : decode cX7_begins 31 = .ok (.iload 4, 2) := by decide +kernel
theorem dX7_begins_33 : decode cX7_begins 33 = .ok (.iconst 1, 1) := by decide +kernel
theorem dX7_begins_34 : decode cX7_begins 34 = .ok (.iadd, 1) := by decide +kernel
theorem dX7_begins_35 : decode cX7_begins 35 = .ok (.iaload, 1) := by decide +kernel
theorem dX7_begins_36 : decode cX7_begins 36 = .ok (.iastore, 1) := by decide +kernel
theorem dX7_begins_37 : decode cX7_begins 37 = .ok (.iinc 4 1, 3) := by decide +kernel
theorem dX7_begins_40 : decode cX7_begins 40 = .ok (.goto (-25), 3) := by decide +kernel
theorem dX7_begins_43 : decode cX7_begins 43 = .ok (.aload_n 0, 1) := by decide +kernel
theorem dX7_begins_44 : decode cX7_begins 44 = .ok (.getfield 49, 3) := by decide +kernel
theorem dX7_begins_47 : decode cX7_begins 47 = .ok (.iconst 5, 1) := by decide +kernel
theorem dX7_begins_48 : decode cX7_begins 48 = .ok (.iload_n 3, 1) := by decide +kernel
theorem dX7_begins_49 : decode cX7_begins 49 = .ok (.iastore, 1) := by decide +kernel
theorem dX7_begins_50 : decode cX7_begins 50 = .ok (.aload_n 0, 1) := by decide +kernel
theorem dX7_begins_51 : decode cX7_begins 51 = .ok (.getfield 31, 3) := by decide +kernel
theorem dX7_begins_54 : decode cX7_begins 54 = .ok (.iload_n 1, 1) := by decide +kernel
theorem dX7_begins_55 : decode cX7_begins 55 = .ok (.iaload, 1) := by decide +kernel
theorem dX7_begins_56 : decode cX7_begins 56 = .ok (.ifCond .ne 7, 3) := by decide +kernel
theorem dX7_begins_59 : decode cX7_begins 59 = .ok (.iconst 1, 1) := by decide +kernel
theorem dX7_begins_60 : decode cX7_begins 60 = .ok (.goto 4, 3) := by decide +kernel
theorem dX7_begins_63 : decode cX7_begins 63 = .ok (.iconst 0, 1) := by decide +kernel
theorem dX7_begins_64 : decode cX7_begins 64 = .ok (.istore 4, 2) := by decide +kernel
theorem dX7_begins_66 : decode cX7_begins 66 = .ok (.aload_n 0, 1) := by decide +kernel
theorem dX7_begins_67 : decode cX7_begins 67 = .ok (.getfield 55, 3) := by decide +kernel
theorem dX7_begins_70 : decode cX7_begins 70 = .ok (.aload_n 0, 1) := by decide +kernel
theorem dX7_begins_71 : decode cX7_begins 71 = .ok (.getfield 82, 3) := by decide +kernel
theorem dX7_begins_74 : decode cX7_begins 74 = .ok (.aload_n 0, 1) := by decide +kernel
theorem dX7_begins_75 : decode cX7_begins 75 = .ok (.getfield 89, 3) := by decide +kernel
theorem dX7_begins_78 : decode cX7_begins 78 = .ok (.iastore, 1) := by decide +kernel
theorem dX7_begins_79 : decode cX7_begins 79 = .ok (.aload_n 0, 1) := by decide +kernel
theorem dX7_begins_80 : decode cX7_begins 80 = .ok (.getfield 58, 3) := by decide +kernel
theorem dX7_begins_83 : decode cX7_begins 83 = .ok (.aload_n 0, 1) := by decide +kernel
theorem dX7_begins_84 : decode cX7_begins 84 = .ok (.getfield 82, 3) := by decide +kernel
theorem dX7_begins_87 : decode cX7_begins 87 = .ok (.iload_n 1, 1) := by decide +kernel
theorem dX7_begins_88 : decode cX7_begins 88 = .ok (.iastore, 1) := by decide +kernel
theorem dX7_begins_89 : decode cX7_begins 89 = .ok (.aload_n 0, 1) := by decide +kernel
theorem dX7_begins_90 : decode cX7_begins 90 = .ok (.getfield 61, 3) := by decide +kernel
theorem dX7_begins_93 : decode cX7_begins 93 = .ok (.aload_n 0, 1) := by decide +kernel
theorem dX7_begins_94 : decode cX7_begins 94 = .ok (.getfield 82, 3) := by decide +kernel
theorem dX7_begins_97 : decode cX7_begins 97 = .ok (.iload_n 3, 1) := by decide +kernel
theorem dX7_begins_98 : decode cX7_begins 98 = .ok (.iastore, 1) := by decide +kernel
theorem dX7_begins_99 : decode cX7_begins 99 = .ok (.aload_n 0, 1) := by decide +kernel
theorem dX7_begins_100 : decode cX7_begins 100 = .ok (.getfield 64, 3) := by decide +kernel
theorem dX7_begins_103 : decode cX7_begins 103 = .ok (.aload_n 0, 1) := by decide +kernel
theorem dX7_begins_104 : decode cX7_begins 104 = .ok (.getfield 82, 3) := by decide +kernel
theorem dX7_begins_107 : decode cX7_begins 107 = .ok (.aload_n 0, 1) := by decide +kernel
theorem dX7_begins_108 : decode cX7_begins 108 = .ok (.invokevirtual 122, 3) := by decide +kernel
theorem dX7_begins_111 : decode cX7_begins 111 = .ok (.aload_n 0, 1) := by decide +kernel
theorem dX7_begins_112 : decode cX7_begins 112 = .ok (.getfield 19, 3) := by decide +kernel
theorem dX7_begins_115 : decode cX7_begins 115 = .ok (.iload_n 1, 1) := by decide +kernel
theorem dX7_begins_116 : decode cX7_begins 116 = .ok (.iaload, 1) := by decide +kernel
theorem dX7_begins_117 : decode cX7_begins 117 = .ok (.invokestatic 132, 3) := by decide +kernel
theorem dX7_begins_120 : decode cX7_begins 120 = .ok (.iastore, 1) := by decide +kernel
theorem dX7_begins_121 : decode cX7_begins 121 = .ok (.aload_n 0, 1) := by decide +kernel
theorem dX7_begins_122 : decode cX7_begins 122 = .ok (.getfield 67, 3) := by decide +kernel
theorem dX7_begins_125 : decode cX7_begins 125 = .ok (.aload_n 0, 1) := by decide +kernel
theorem dX7_begins_126 : decode cX7_begins 126 = .ok (.getfield 82, 3) := by decide +kernel
theorem dX7_begins_129 : decode cX7_begins 129 = .ok (.iload 4, 2) := by decide +kernel
theorem dX7_begins_131 : decode cX7_begins 131 = .ok (.ifCond .ne 7, 3) := by decide +kernel
theorem dX7_begins_134 : decode cX7_begins 134 = .ok (.iconst 1, 1) := by decide +kernel
theorem dX7_begins_135 : decode cX7_begins 135 = .ok (.goto 4, 3) := by decide +kernel
theorem dX7_begins_138 : decode cX7_begins 138 = .ok (.iconst 0, 1) := by decide +kernel
theorem dX7_begins_139 : decode cX7_begins 139 = .ok (.bastore, 1) := by decide +kernel
theorem dX7_begins_140 : decode cX7_begins 140 = .ok (.aload_n 0, 1) := by decide +kernel
theorem dX7_begins_141 : decode cX7_begins 141 = .ok (.dup, 1) := by decide +kernel
theorem dX7_begins_142 : decode cX7_begins 142 = .ok (.getfield 82, 3) := by decide +kernel
theorem dX7_begins_145 : decode cX7_begins 145 = .ok (.iconst 1, 1) := by decide +kernel
theorem dX7_begins_146 : decode cX7_begins 146 = .ok (.iadd, 1) := by decide +kernel
theorem dX7_begins_147 : decode cX7_begins 147 = .ok (.putfield 82, 3) := by decide +kernel
theorem dX7_begins_150 : decode cX7_begins 150 = .ok (.aload_n 0, 1) := by decide +kernel
theorem dX7_begins_151 : decode cX7_begins 151 = .ok (.iload_n 1, 1) := by decide +kernel
theorem dX7_begins_152 : decode cX7_begins 152 = .ok (.bipush 50, 2) := by decide +kernel
theorem dX7_begins_154 : decode cX7_begins 154 = .ok (.bipush 30, 2) := by decide +kernel
theorem dX7_begins_156 : decode cX7_begins 156 = .ok (.aload_n 0, 1) := by decide +kernel
theorem dX7_begins_157 : decode cX7_begins 157 = .ok (.getfield 19, 3) := by decide +kernel
theorem dX7_begins_160 : decode cX7_begins 160 = .ok (.iload_n 1, 1) := by decide +kernel
theorem dX7_begins_161 : decode cX7_begins 161 = .ok (.iaload, 1) := by decide +kernel
theorem dX7_begins_162 : decode cX7_begins 162 = .ok (.imul, 1) := by decide +kernel
theorem dX7_begins_163 : decode cX7_begins 163 = .ok (.iadd, 1) := by decide +kernel
theorem dX7_begins_164 : decode cX7_begins 164 = .ok (.iload 4, 2) := by decide +kernel
theorem dX7_begins_166 : decode cX7_begins 166 = .ok (.ifCond .eq 15, 3) := by decide +kernel
theorem dX7_begins_169 : decode cX7_begins 169 = .ok (.bipush 100, 2) := by decide +kernel
theorem dX7_begins_171 : decode cX7_begins 171 = .ok (.aload_n 0, 1) := by decide +kernel
theorem dX7_begins_172 : decode cX7_begins 172 = .ok (.getfield 19, 3) := by decide +kernel
theorem dX7_begins_175 : decode cX7_begins 175 = .ok (.iload_n 1, 1) := by decide +kernel
theorem dX7_begins_176 : decode cX7_begins 176 = .ok (.iaload, 1) := by decide +kernel
theorem dX7_begins_177 : decode cX7_begins 177 = .ok (.imul, 1) := by decide +kernel
theorem dX7_begins_178 : decode cX7_begins 178 = .ok (.goto 4, 3) := by decide +kernel
theorem dX7_begins_181 : decode cX7_begins 181 = .ok (.iconst 0, 1) := by decide +kernel
theorem dX7_begins_182 : decode cX7_begins 182 = .ok (.iadd, 1) := by decide +kernel
theorem dX7_begins_183 : decode cX7_begins 183 = .ok (.invokevirtual 125, 3) := by decide +kernel
theorem dX7_begins_186 : decode cX7_begins 186 = .ok (.aload_n 0, 1) := by decide +kernel
theorem dX7_begins_187 : decode cX7_begins 187 = .ok (.getfield 52, 3) := by decide +kernel
theorem dX7_begins_190 : decode cX7_begins 190 = .ok (.iload_n 3, 1) := by decide +kernel
theorem dX7_begins_191 : decode cX7_begins 191 = .ok (.dup2, 1) := by decide +kernel
theorem dX7_begins_192 : decode cX7_begins 192 = .ok (.iaload, 1) := by decide +kernel
theorem dX7_begins_193 : decode cX7_begins 193 = .ok (.bipush 50, 2) := by decide +kernel
theorem dX7_begins_195 : decode cX7_begins 195 = .ok (.iadd, 1) := by decide +kernel
theorem dX7_begins_196 : decode cX7_begins 196 = .ok (.iastore, 1) := by decide +kernel
theorem dX7_begins_197 : decode cX7_begins 197 = .ok (.aload_n 0, 1) := by decide +kernel
theorem dX7_begins_198 : decode cX7_begins 198 = .ok (.dup, 1) := by decide +kernel
theorem dX7_begins_199 : decode cX7_begins 199 = .ok (.getfield 136, 3) := by decide +kernel
theorem dX7_begins_202 : decode cX7_begins 202 = .ok (.bipush 30, 2) := by decide +kernel
theorem dX7_begins_204 : decode cX7_begins 204 = .ok (.aload_n 0, 1) := by decide +kernel
theorem dX7_begins_205 : decode cX7_begins 205 = .ok (.getfield 19, 3) := by decide +kernel
theorem dX7_begins_208 : decode cX7_begins 208 = .ok (.iload_n 1, 1) := by decide +kernel
theorem dX7_begins_209 : decode cX7_begins 209 = .ok (.iaload, 1) := by decide +kernel
theorem dX7_begins_210 : decode cX7_begins 210 = .ok (.imul, 1) := by decide +kernel
theorem dX7_begins_211 : decode cX7_begins 211 = .ok (.iadd, 1) := by decide +kernel
theorem dX7_begins_212 : decode cX7_begins 212 = .ok (.putfield 136, 3) := by decide +kernel
theorem dX7_begins_215 : decode cX7_begins 215 = .ok (.aload_n 0, 1) := by decide +kernel
theorem dX7_begins_216 : decode cX7_begins 216 = .ok (.dup, 1) := by decide +kernel
theorem dX7_begins_217 : decode cX7_begins 217 = .ok (.getfield 139, 3) := by decide +kernel
theorem dX7_begins_220 : decode cX7_begins 220 = .ok (.iload 4, 2) := by decide +kernel
theorem dX7_begins_222 : decode cX7_begins 222 = .ok (.ifCond .eq 15, 3) := by decide +kernel
theorem dX7_begins_225 : decode cX7_begins 225 = .ok (.bipush 100, 2) := by decide +kernel
theorem dX7_begins_227 : decode cX7_begins 227 = .ok (.aload_n 0, 1) := by decide +kernel
theorem dX7_begins_228 : decode cX7_begins 228 = .ok (.getfield 19, 3) := by decide +kernel
theorem dX7_begins_231 : decode cX7_begins 231 = .ok (.iload_n 1, 1) := by decide +kernel
theorem dX7_begins_232 : decode cX7_begins 232 = .ok (.iaload, 1) := by decide +kernel
theorem dX7_begins_233 : decode cX7_begins 233 = .ok (.imul, 1) := by decide +kernel
theorem dX7_begins_234 : decode cX7_begins 234 = .ok (.goto 4, 3) := by decide +kernel
theorem dX7_begins_237 : decode cX7_begins 237 = .ok (.iconst 0, 1) := by decide +kernel
theorem dX7_begins_238 : decode cX7_begins 238 = .ok (.iadd, 1) := by decide +kernel
theorem dX7_begins_239 : decode cX7_begins 239 = .ok (.putfield 139, 3) := by decide +kernel
theorem dX7_begins_242 : decode cX7_begins 242 = .ok (.aload_n 0, 1) := by decide +kernel
theorem dX7_begins_243 : decode cX7_begins 243 = .ok (.getfield 31, 3) := by decide +kernel
theorem dX7_begins_246 : decode cX7_begins 246 = .ok (.iload_n 1, 1) := by decide +kernel
theorem dX7_begins_247 : decode cX7_begins 247 = .ok (.iload 4, 2) := by decide +kernel
theorem dX7_begins_249 : decode cX7_begins 249 = .ok (.ifCond .eq 7, 3) := by decide +kernel
theorem dX7_begins_252 : decode cX7_begins 252 = .ok (.iconst 1, 1) := by decide +kernel
theorem dX7_begins_253 : decode cX7_begins 253 = .ok (.goto 4, 3) := by decide +kernel
theorem dX7_begins_256 : decode cX7_begins 256 = .ok (.iconst 3, 1) := by decide +kernel
theorem dX7_begins_257 : decode cX7_begins 257 = .ok (.iastore, 1) := by decide +kernel
theorem dX7_begins_258 : decode cX7_begins 258 = .ok (.aload_n 0, 1) := by decide +kernel
theorem dX7_begins_259 : decode cX7_begins 259 = .ok (.getfield 37, 3) := by decide +kernel
theorem dX7_begins_262 : decode cX7_begins 262 = .ok (.iload_n 1, 1) := by decide +kernel
theorem dX7_begins_263 : decode cX7_begins 263 = .ok (.aload_n 0, 1) := by decide +kernel
theorem dX7_begins_264 : decode cX7_begins 264 = .ok (.getfield 89, 3) := by decide +kernel
theorem dX7_begins_267 : decode cX7_begins 267 = .ok (.iastore, 1) := by decide +kernel
theorem dX7_begins_268 : decode cX7_begins 268 = .ok (.aload_n 0, 1) := by decide +kernel
theorem dX7_begins_269 : decode cX7_begins 269 = .ok (.getfield 34, 3) := by decide +kernel
theorem dX7_begins_272 : decode cX7_begins 272 = .ok (.iload_n 1, 1) := by decide +kernel
theorem dX7_begins_273 : decode cX7_begins 273 = .ok (.iconst (-1), 1) := by decide +kernel
theorem dX7_begins_274 : decode cX7_begins 274 = .ok (.iastore, 1) := by decide +kernel
theorem dX7_begins_275 : decode cX7_begins 275 = .ok (.return_, 1) := by decide +kernel
theorem dX7_looksAt_0 : decode cX7_looksAt 0 = .ok (.aload_n 0, 1) := by decide +kernel
theorem dX7_looksAt_1 : decode cX7_looksAt 1 = .ok (.iload_n 1, 1) := by decide +kernel
theorem dX7_looksAt_2 : decode cX7_looksAt 2 = .ok (.aload_n 0, 1) := by decide +kernel
theorem dX7_looksAt_3 : decode cX7_looksAt 3 = .ok (.getfield 89, 3) := by decide +kernel
theorem dX7_looksAt_6 : decode cX7_looksAt 6 = .ok (.invokevirtual 106, 3) := by decide +kernel
theorem dX7_looksAt_9 : decode cX7_looksAt 9 = .ok (.istore_n 2, 1) := by decide +kernel
theorem dX7_looksAt_10 : decode cX7_looksAt 10 = .ok (.iload_n 2, 1) := by decide +kernel
theorem dX7_looksAt_11 : decode cX7_looksAt 11 = .ok (.ifCond .eq 63, 3) := by decide +kernel
theorem dX7_looksAt_14 : decode cX7_looksAt 14 = .ok (.aload_n 0, 1) := by decide +kernel
theorem dX7_looksAt_15 : decode cX7_looksAt 15 = .ok (.getfield 31, 3) := by decide +kernel
theorem dX7_looksAt_18 : decode cX7_looksAt 18 = .ok (.iload_n 1, 1) := by decide +kernel
theorem dX7_looksAt_19 : decode cX7_looksAt 19 = .ok (.iaload, 1) := by decide +kernel
theorem dX7_looksAt_20 : decode cX7_looksAt 20 = .ok (.iconst 2, 1) := by decide +kernel
theorem dX7_looksAt_21 : decode cX7_looksAt 21 = .ok (.if_icmp .eq 16, 3) := by decide +kernel
theorem dX7_looksAt_24 : decode cX7_looksAt 24 = .ok (.aload_n 0, 1) := by decide +kernel
theorem dX7_looksAt_25 : decode cX7_looksAt 25 = .ok (.aload_n 0, 1) := by decide +kernel
theorem dX7_looksAt_26 : decode cX7_looksAt 26 = .ok (.getfield 28, 3) := by decide +kernel
theorem dX7_looksAt_29 : decode cX7_looksAt 29 = .ok (.iload_n 1, 1) := by decide +kernel
theorem dX7_looksAt_30 : decode cX7_looksAt 30 = .ok (.iaload, 1) := by decide +kernel
theorem dX7_looksAt_31 : decode cX7_looksAt 31 = .ok (.invokevirtual 142, 3) := by decide +kernel
theorem dX7_looksAt_34 : decode cX7_looksAt 34 = .ok (.ifCond .eq 40, 3) := by decide +kernel
theorem dX7_looksAt_37 : decode cX7_looksAt 37 = .ok (.aload_n 0, 1) := by decide +kernel
theorem dX7_looksAt_38 : decode cX7_looksAt 38 = .ok (.getfield 82, 3) := by decide +kernel
theorem dX7_looksAt_41 : decode cX7_looksAt 41 = .ok (.bipush 100, 2) := by decide +kernel
theorem dX7_looksAt_43 : decode cX7_looksAt 43 = .ok (.if_icmp .ge 31, 3) := by decide +kernel
theorem dX7_looksAt_46 : decode cX7_looksAt 46 = .ok (.aload_n 0, 1) := by decide +kernel
theorem dX7_looksAt_47 : decode cX7_looksAt 47 = .ok (.invokevirtual 129, 3) := by decide +kernel
theorem dX7_looksAt_50 : decode cX7_looksAt 50 = .ok (.iconst (-1), 1) := by decide +kernel
theorem dX7_looksAt_51 : decode cX7_looksAt 51 = .ok (.if_icmp .eq 23, 3) := by decide +kernel
theorem dX7_looksAt_54 : decode cX7_looksAt 54 = .ok (.aload_n 0, 1) := by decide +kernel
theorem dX7_looksAt_55 : decode cX7_looksAt 55 = .ok (.invokevirtual 122, 3) := by decide +kernel
theorem dX7_looksAt_58 : decode cX7_looksAt 58 = .ok (.invokestatic 145, 3) := by decide +kernel
theorem dX7_looksAt_61 : decode cX7_looksAt 61 = .ok (.aload_n 0, 1) := by decide +kernel
theorem dX7_looksAt_62 : decode cX7_looksAt 62 = .ok (.getfield 19, 3) := by decide +kernel
theorem dX7_looksAt_65 : decode cX7_looksAt 65 = .ok (.iload_n 1, 1) := by decide +kernel
theorem dX7_looksAt_66 : decode cX7_looksAt 66 = .ok (.iaload, 1) := by decide +kernel
theorem dX7_looksAt_67 : decode cX7_looksAt 67 = .ok (.if_icmp .lt 7, 3) := by decide +kernel
theorem dX7_looksAt_70 : decode cX7_looksAt 70 = .ok (.iconst 1, 1) := by decide +kernel
theorem dX7_looksAt_71 : decode cX7_looksAt 71 = .ok (.goto 4, 3) := by decide +kernel
theorem dX7_looksAt_74 : decode cX7_looksAt 74 = .ok (.iconst 0, 1) := by decide +kernel
theorem dX7_looksAt_75 : decode cX7_looksAt 75 = .ok (.istore_n 3, 1) := by decide +kernel
theorem dX7_looksAt_76 : decode cX7_looksAt 76 = .ok (.iload_n 2, 1) := by decide +kernel
theorem dX7_looksAt_77 : decode cX7_looksAt 77 = .ok (.ifCond .ne 24, 3) := by decide +kernel
theorem dX7_looksAt_80 : decode cX7_looksAt 80 = .ok (.aload_n 0, 1) := by decide +kernel
theorem dX7_looksAt_81 : decode cX7_looksAt 81 = .ok (.getfield 34, 3) := by decide +kernel
theorem dX7_looksAt_84 : decode cX7_looksAt 84 = .ok (.iload_n 1, 1) := by decide +kernel
theorem dX7_looksAt_85 : decode cX7_looksAt 85 = .ok (.iaload, 1) := by decide +kernel
theorem dX7_looksAt_86 : decode cX7_looksAt 86 = .ok (.aload_n 0, 1) := by decide +kernel
theorem dX7_looksAt_87 : decode cX7_looksAt 87 = .ok (.getfield 89, 3) := by decide +kernel
theorem dX7_looksAt_90 : decode cX7_looksAt 90 = .ok (.if_icmp .ne 11, 3) := by decide +kernel
theorem dX7_looksAt_93 : decode cX7_looksAt 93 = .ok (.aload_n 0, 1) := by decide +kernel
theorem dX7_looksAt_94 : decode cX7_looksAt 94 = .ok (.iload_n 1, 1) := by decide +kernel
theorem dX7_looksAt_95 : decode cX7_looksAt 95 = .ok (.invokevirtual 148, 3) := by decide +kernel
theorem dX7_looksAt_98 : decode cX7_looksAt 98 = .ok (.goto 47, 3) := by decide +kernel
theorem dX7_looksAt_101 : decode cX7_looksAt 101 = .ok (.iload_n 3, 1) := by decide +kernel
theorem dX7_looksAt_102 : decode cX7_looksAt 102 = .ok (.ifCond .eq 11, 3) := by decide +kernel
theorem dX7_looksAt_105 : decode cX7_looksAt 105 = .ok (.aload_n 0, 1) := by decide +kernel
theorem dX7_looksAt_106 : decode cX7_looksAt 106 = .ok (.iload_n 1, 1) := by decide +kernel
theorem dX7_looksAt_107 : decode cX7_looksAt 107 = .ok (.invokevirtual 152, 3) := by decide +kernel
theorem dX7_looksAt_110 : decode cX7_looksAt 110 = .ok (.goto 35, 3) := by decide +kernel
theorem dX7_looksAt_113 : decode cX7_looksAt 113 = .ok (.aload_n 0, 1) := by decide +kernel
theorem dX7_looksAt_114 : decode cX7_looksAt 114 = .ok (.getfield 89, 3) := by decide +kernel
theorem dX7_looksAt_117 : decode cX7_looksAt 117 = .ok (.aload_n 0, 1) := by decide +kernel
theorem dX7_looksAt_118 : decode cX7_looksAt 118 = .ok (.getfield 34, 3) := by decide +kernel
theorem dX7_looksAt_121 : decode cX7_looksAt 121 = .ok (.iload_n 1, 1) := by decide +kernel
theorem dX7_looksAt_122 : decode cX7_looksAt 122 = .ok (.iaload, 1) := by decide +kernel
theorem dX7_looksAt_123 : decode cX7_looksAt 123 = .ok (.isub, 1) := by decide +kernel
theorem dX7_looksAt_124 : decode cX7_looksAt 124 = .ok (.iconst 3, 1) := by decide +kernel
theorem dX7_looksAt_125 : decode cX7_looksAt 125 = .ok (.if_icmp .lt 20, 3) := by decide +kernel
theorem dX7_looksAt_128 : decode cX7_looksAt 128 = .ok (.aload_n 0, 1) := by decide +kernel
theorem dX7_looksAt_129 : decode cX7_looksAt 129 = .ok (.getfield 46, 3) := by decide +kernel
theorem dX7_looksAt_132 : decode cX7_looksAt 132 = .ok (.iload_n 1, 1) := by decide +kernel
theorem dX7_looksAt_133 : decode cX7_looksAt 133 = .ok (.dup2, 1) := by decide +kernel
theorem dX7_looksAt_134 : decode cX7_looksAt 134 = .ok (.iaload, 1) := by decide +kernel
theorem dX7_looksAt_135 : decode cX7_looksAt 135 = .ok (.iconst 1, 1) := by decide +kernel
theorem dX7_looksAt_136 : decode cX7_looksAt 136 = .ok (.iadd, 1) := by decide +kernel
theorem dX7_looksAt_137 : decode cX7_looksAt 137 = .ok (.iastore, 1) := by decide +kernel
theorem dX7_looksAt_138 : decode cX7_looksAt 138 = .ok (.aload_n 0, 1) := by decide +kernel
theorem dX7_looksAt_139 : decode cX7_looksAt 139 = .ok (.getfield 34, 3) := by decide +kernel
theorem dX7_looksAt_142 : decode cX7_looksAt 142 = .ok (.iload_n 1, 1) := by decide +kernel
theorem dX7_looksAt_143 : decode cX7_looksAt 143 = .ok (.iconst (-1), 1) := by decide +kernel
theorem dX7_looksAt_144 : decode cX7_looksAt 144 = .ok (.iastore, 1) := by decide +kernel
theorem dX7_looksAt_145 : decode cX7_looksAt 145 = .ok (.return_, 1) := by decide +kernel
theorem dX7_passes_0 : decode cX7_passes 0 = .ok (.aload_n 0, 1) := by decide +kernel
theorem dX7_passes_1 : decode cX7_passes 1 = .ok (.dup, 1) := by decide +kernel
theorem dX7_passes_2 : decode cX7_passes 2 = .ok (.getfield 89, 3) := by decide +kernel
theorem dX7_passes_5 : decode cX7_passes 5 = .ok (.iconst 1, 1) := by decide +kernel
theorem dX7_passes_6 : decode cX7_passes 6 = .ok (.iadd, 1) := by decide +kernel
theorem dX7_passes_7 : decode cX7_passes 7 = .ok (.putfield 89, 3) := by decide +kernel
theorem dX7_passes_10 : decode cX7_passes 10 = .ok (.iconst 0, 1) := by decide +kernel
theorem dX7_passes_11 : decode cX7_passes 11 = .ok (.istore_n 1, 1) := by decide +kernel
theorem dX7_passes_12 : decode cX7_passes 12 = .ok (.iload_n 1, 1) := by decide +kernel
theorem dX7_passes_13 : decode cX7_passes 13 = .ok (.aload_n 0, 1) := by decide +kernel
theorem dX7_passes_14 : decode cX7_passes 14 = .ok (.getfield 75, 3) := by decide +kernel
theorem dX7_passes_17 : decode cX7_passes 17 = .ok (.if_icmp .ge 108, 3) := by decide +kernel
theorem dX7_passes_20 : decode cX7_passes 20 = .ok (.aload_n 0, 1) := by decide +kernel
theorem dX7_passes_21 : decode cX7_passes 21 = .ok (.getfield 31, 3) := by decide +kernel
theorem dX7_passes_24 : decode cX7_passes 24 = .ok (.iload_n 1, 1) := by decide +kernel
theorem dX7_passes_25 : decode cX7_passes 25 = .ok (.iaload, 1) := by decide +kernel
theorem dX7_passes_26 : decode cX7_passes 26 = .ok (.iconst 1, 1) := by decide +kernel
theorem dX7_passes_27 : decode cX7_passes 27 = .ok (.if_icmp .eq 13, 3) := by decide +kernel
theorem dX7_passes_30 : decode cX7_passes 30 = .ok (.aload_n 0, 1) := by decide +kernel
theorem dX7_passes_31 : decode cX7_passes 31 = .ok (.getfield 31, 3) := by decide +kernel
theorem dX7_passes_34 : decode cX7_passes 34 = .ok (.iload_n 1, 1) := by decide +kernel
theorem dX7_passes_35 : decode cX7_passes 35 = .ok (.iaload, 1) := by decide +kernel
theorem dX7_passes_36 : decode cX7_passes 36 = .ok (.iconst 3, 1) := by decide +kernel
theorem dX7_passes_37 : decode cX7_passes 37 = .ok (.if_icmp .ne 22, 3) := by decide +kernel
theorem dX7_passes_40 : decode cX7_passes 40 = .ok (.aload_n 0, 1) := by decide +kernel
theorem dX7_passes_41 : decode cX7_passes 41 = .ok (.getfield 89, 3) := by decide +kernel
theorem dX7_passes_44 : decode cX7_passes 44 = .ok (.aload_n 0, 1) := by decide +kernel
theorem dX7_passes_45 : decode cX7_passes 45 = .ok (.getfield 37, 3) := by decide +kernel
theorem dX7_passes_48 : decode cX7_passes 48 = .ok (.iload_n 1, 1) := by decide +kernel
theorem dX7_passes_49 : decode cX7_passes 49 = .ok (.iaload, 1) := by decide +kernel
theorem dX7_passes_50 : decode cX7_passes 50 = .ok (.isub, 1) := by decide +kernel
theorem dX7_passes_51 : decode cX7_passes 51 = .ok (.iconst 2, 1) := by decide +kernel
theorem dX7_passes_52 : decode cX7_passes 52 = .ok (.if_icmp .lt 7, 3) := by decide +kernel
theorem dX7_passes_55 : decode cX7_passes 55 = .ok (.iconst 1, 1) := by decide +kernel
theorem dX7_passes_56 : decode cX7_passes 56 = .ok (.goto 4, 3) := by decide +kernel
theorem dX7_passes_59 : decode cX7_passes 59 = .ok (.iconst 0, 1) := by decide +kernel
theorem dX7_passes_60 : decode cX7_passes 60 = .ok (.istore_n 2, 1) := by decide +kernel
theorem dX7_passes_61 : decode cX7_passes 61 = .ok (.aload_n 0, 1) := by decide +kernel
theorem dX7_passes_62 : decode cX7_passes 62 = .ok (.getfield 31, 3) := by decide +kernel
theorem dX7_passes_65 : decode cX7_passes 65 = .ok (.iload_n 1, 1) := by decide +kernel
theorem dX7_passes_66 : decode cX7_passes 66 = .ok (.dup2, 1) := by decide +kernel
theorem dX7_passes_67 : decode cX7_passes 67 = .ok (.iaload, 1) := by decide +kernel
theorem dX7_passes_68 : decode cX7_passes 68 = .ok (.iload_n 2, 1) := by decide +kernel
theorem dX7_passes_69 : decode cX7_passes 69 = .ok (.ifCond .eq 7, 3) := by decide +kernel
theorem dX7_passes_72 : decode cX7_passes 72 = .ok (.iconst 1, 1) := by decide +kernel
theorem dX7_passes_73 : decode cX7_passes 73 = .ok (.goto 4, 3) := by decide +kernel
theorem dX7_passes_76 : decode cX7_passes 76 = .ok (.iconst 0, 1) := by decide +kernel
theorem dX7_passes_77 : decode cX7_passes 77 = .ok (.iadd, 1) := by decide +kernel
theorem dX7_passes_78 : decode cX7_passes 78 = .ok (.iastore, 1) := by decide +kernel
theorem dX7_passes_79 : decode cX7_passes 79 = .ok (.aload_n 0, 1) := by decide +kernel
theorem dX7_passes_80 : decode cX7_passes 80 = .ok (.getfield 31, 3) := by decide +kernel
theorem dX7_passes_83 : decode cX7_passes 83 = .ok (.iload_n 1, 1) := by decide +kernel
theorem dX7_passes_84 : decode cX7_passes 84 = .ok (.iaload, 1) := by decide +kernel
theorem dX7_passes_85 : decode cX7_passes 85 = .ok (.iconst 2, 1) := by decide +kernel
theorem dX7_passes_86 : decode cX7_passes 86 = .ok (.if_icmp .ne 33, 3) := by decide +kernel
theorem dX7_passes_89 : decode cX7_passes 89 = .ok (.aload_n 0, 1) := by decide +kernel
theorem dX7_passes_90 : decode cX7_passes 90 = .ok (.iload_n 1, 1) := by decide +kernel
theorem dX7_passes_91 : decode cX7_passes 91 = .ok (.iconst 5, 1) := by decide +kernel
theorem dX7_passes_92 : decode cX7_passes 92 = .ok (.aload_n 0, 1) := by decide +kernel
theorem dX7_passes_93 : decode cX7_passes 93 = .ok (.getfield 19, 3) := by decide +kernel
theorem dX7_passes_96 : decode cX7_passes 96 = .ok (.iload_n 1, 1) := by decide +kernel
theorem dX7_passes_97 : decode cX7_passes 97 = .ok (.iaload, 1) := by decide +kernel
theorem dX7_passes_98 : decode cX7_passes 98 = .ok (.imul, 1) := by decide +kernel
theorem dX7_passes_99 : decode cX7_passes 99 = .ok (.invokevirtual 125, 3) := by decide +kernel
theorem dX7_passes_102 : decode cX7_passes 102 = .ok (.aload_n 0, 1) := by decide +kernel
theorem dX7_passes_103 : decode cX7_passes 103 = .ok (.dup, 1) := by decide +kernel
theorem dX7_passes_104 : decode cX7_passes 104 = .ok (.getfield 139, 3) := by decide +kernel
theorem dX7_passes_107 : decode cX7_passes 107 = .ok (.iconst 5, 1) := by decide +kernel
theorem dX7_passes_108 : decode cX7_passes 108 = .ok (.aload_n 0, 1) := by decide +kernel
theorem dX7_passes_109 : decode cX7_passes 109 = .ok (.getfield 19, 3) := by decide +kernel
theorem dX7_passes_112 : decode cX7_passes 112 = .ok (.iload_n 1, 1) := by decide +kernel
theorem dX7_passes_113 : decode cX7_passes 113 = .ok (.iaload, 1) := by decide +kernel
theorem dX7_passes_114 : decode cX7_passes 114 = .ok (.imul, 1) := by decide +kernel
theorem dX7_passes_115 : decode cX7_passes 115 = .ok (.iadd, 1) := by decide +kernel
theorem dX7_passes_116 : decode cX7_passes 116 = .ok (.putfield 139, 3) := by decide +kernel
theorem dX7_passes_119 : decode cX7_passes 119 = .ok (.iinc 1 1, 3) := by decide +kernel
theorem dX7_passes_122 : decode cX7_passes 122 = .ok (.goto (-110), 3) := by decide +kernel
theorem dX7_passes_125 : decode cX7_passes 125 = .ok (.iconst 0, 1) := by decide +kernel
theorem dX7_passes_126 : decode cX7_passes 126 = .ok (.istore_n 1, 1) := by decide +kernel
theorem dX7_passes_127 : decode cX7_passes 127 = .ok (.iconst 0, 1) := by decide +kernel
theorem dX7_passes_128 : decode cX7_passes 128 = .ok (.istore_n 2, 1) := by decide +kernel
theorem dX7_passes_129 : decode cX7_passes 129 = .ok (.iload_n 2, 1) := by decide +kernel
theorem dX7_passes_130 : decode cX7_passes 130 = .ok (.aload_n 0, 1) := by decide +kernel
theorem dX7_passes_131 : decode cX7_passes 131 = .ok (.getfield 75, 3) := by decide +kernel
theorem dX7_passes_134 : decode cX7_passes 134 = .ok (.if_icmp .ge 113, 3) := by decide +kernel
theorem dX7_passes_137 : decode cX7_passes 137 = .ok (.iconst (-1), 1) := by decide +kernel
theorem dX7_passes_138 : decode cX7_passes 138 = .ok (.istore_n 3, 1) := by decide +kernel
theorem dX7_passes_139 : decode cX7_passes 139 = .ok (.iconst 0, 1) := by decide +kernel
theorem dX7_passes_140 : decode cX7_passes 140 = .ok (.istore 4, 2) := by decide +kernel
theorem dX7_passes_142 : decode cX7_passes 142 = .ok (.iload 4, 2) := by decide +kernel
theorem dX7_passes_144 : decode cX7_passes 144 = .ok (.aload_n 0, 1) := by decide +kernel
theorem dX7_passes_145 : decode cX7_passes 145 = .ok (.getfield 75, 3) := by decide +kernel
theorem dX7_passes_148 : decode cX7_passes 148 = .ok (.if_icmp .ge 77, 3) := by decide +kernel
theorem dX7_passes_151 : decode cX7_passes 151 = .ok (.aload_n 0, 1) := by decide +kernel
theorem dX7_passes_152 : decode cX7_passes 152 = .ok (.getfield 34, 3) := by decide +kernel
theorem dX7_passes_155 : decode cX7_passes 155 = .ok (.iload 4, 2) := by decide +kernel
theorem dX7_passes_157 : decode cX7_passes 157 = .ok (.iaload, 1) := by decide +kernel
theorem dX7_passes_158 : decode cX7_passes 158 = .ok (.iconst (-1), 1) := by decide +kernel
theorem dX7_passes_159 : decode cX7_passes 159 = .ok (.if_icmp .eq 30, 3) := by decide +kernel
theorem dX7_passes_162 : decode cX7_passes 162 = .ok (.aload_n 0, 1) := by decide +kernel
theorem dX7_passes_163 : decode cX7_passes 163 = .ok (.getfield 34, 3) := by decide +kernel
theorem dX7_passes_166 : decode cX7_passes 166 = .ok (.iload 4, 2) := by decide +kernel
theorem dX7_passes_168 : decode cX7_passes 168 = .ok (.iaload, 1) := by decide +kernel
theorem dX7_passes_169 : decode cX7_passes 169 = .ok (.aload_n 0, 1) := by decide +kernel
theorem dX7_passes_170 : decode cX7_passes 170 = .ok (.getfield 89, 3) := by decide +kernel
theorem dX7_passes_173 : decode cX7_passes 173 = .ok (.if_icmp .gt 16, 3) := by decide +kernel
theorem dX7_passes_176 : decode cX7_passes 176 = .ok (.iload_n 1, 1) := by decide +kernel
theorem dX7_passes_177 : decode cX7_passes 177 = .ok (.iload 4, 2) := by decide +kernel
theorem dX7_passes_179 : decode cX7_passes 179 = .ok (.ishr, 1) := by decide +kernel
theorem dX7_passes_180 : decode cX7_passes 180 = .ok (.iconst 1, 1) := by decide +kernel
theorem dX7_passes_181 : decode cX7_passes 181 = .ok (.iand, 1) := by decide +kernel
theorem dX7_passes_182 : decode cX7_passes 182 = .ok (.ifCond .ne 7, 3) := by decide +kernel
theorem dX7_passes_185 : decode cX7_passes 185 = .ok (.iconst 1, 1) := by decide +kernel
theorem dX7_passes_186 : decode cX7_passes 186 = .ok (.goto 4, 3) := by decide +kernel
theorem dX7_passes_189 : decode cX7_passes 189 = .ok (.iconst 0, 1) := by decide +kernel
theorem dX7_passes_190 : decode cX7_passes 190 = .ok (.istore 5, 2) := by decide +kernel
theorem dX7_passes_192 : decode cX7_passes 192 = .ok (.iload 5, 2) := by decide +kernel
theorem dX7_passes_194 : decode cX7_passes 194 = .ok (.ifCond .eq 23, 3) := by decide +kernel
theorem dX7_passes_197 : decode cX7_passes 197 = .ok (.iload_n 3, 1) := by decide +kernel
theorem dX7_passes_198 : decode cX7_passes 198 = .ok (.iconst (-1), 1) := by decide +kernel
theorem dX7_passes_199 : decode cX7_passes 199 = .ok (.if_icmp .eq 13, 3) := by decide +kernel
theorem dX7_passes_202 : decode cX7_passes 202 = .ok (.aload_n 0, 1) := by decide +kernel
theorem dX7_passes_203 : decode cX7_passes 203 = .ok (.iload 4, 2) := by decide +kernel
theorem dX7_passes_205 : decode cX7_passes 205 = .ok (.iload_n 3, 1) := by decide +kernel
theorem dX7_passes_206 : decode cX7_passes 206 = .ok (.invokevirtual 110, 3) := by decide +kernel
theorem dX7_passes_209 : decode cX7_passes 209 = .ok (.ifCond .eq 8, 3) := by decide +kernel
theorem dX7_passes_212 : decode cX7_passes 212 = .ok (.iload 4, 2) := by decide +kernel
theorem dX7_passes_214 : decode cX7_passes 214 = .ok (.goto 4, 3) := by decide +kernel
theorem dX7_passes_217 : decode cX7_passes 217 = .ok (.iload_n 3, 1) := by decide +kernel
theorem dX7_passes_218 : decode cX7_passes 218 = .ok (.istore_n 3, 1) := by decide +kernel
theorem dX7_passes_219 : decode cX7_passes 219 = .ok (.iinc 4 1, 3) := by decide +kernel
theorem dX7_passes_222 : decode cX7_passes 222 = .ok (.goto (-80), 3) := by decide +kernel
theorem dX7_passes_225 : decode cX7_passes 225 = .ok (.iload_n 3, 1) := by decide +kernel
theorem dX7_passes_226 : decode cX7_passes 226 = .ok (.iconst (-1), 1) := by decide +kernel
theorem dX7_passes_227 : decode cX7_passes 227 = .ok (.if_icmp .eq 14, 3) := by decide +kernel
theorem dX7_passes_230 : decode cX7_passes 230 = .ok (.iload_n 1, 1) := by decide +kernel
theorem dX7_passes_231 : decode cX7_passes 231 = .ok (.iconst 1, 1) := by decide +kernel
theorem dX7_passes_232 : decode cX7_passes 232 = .ok (.iload_n 3, 1) := by decide +kernel
theorem dX7_passes_233 : decode cX7_passes 233 = .ok (.ishl, 1) := by decide +kernel
theorem dX7_passes_234 : decode cX7_passes 234 = .ok (.ior, 1) := by decide +kernel
theorem dX7_passes_235 : decode cX7_passes 235 = .ok (.istore_n 1, 1) := by decide +kernel
theorem dX7_passes_236 : decode cX7_passes 236 = .ok (.aload_n 0, 1) := by decide +kernel
theorem dX7_passes_237 : decode cX7_passes 237 = .ok (.iload_n 3, 1) := by decide +kernel
theorem dX7_passes_238 : decode cX7_passes 238 = .ok (.invokevirtual 155, 3) := by decide +kernel
theorem dX7_passes_241 : decode cX7_passes 241 = .ok (.iinc 2 1, 3) := by decide +kernel
theorem dX7_passes_244 : decode cX7_passes 244 = .ok (.goto (-115), 3) := by decide +kernel
theorem dX7_passes_247 : decode cX7_passes 247 = .ok (.return_, 1) := by decide +kernel
theorem dX7_pass_0 : decode cX7_pass 0 = .ok (.aload_n 0, 1) := by decide +kernel
theorem dX7_pass_1 : decode cX7_pass 1 = .ok (.iload_n 1, 1) := by decide +kernel
theorem dX7_pass_2 : decode cX7_pass 2 = .ok (.iconst 1, 1) := by decide +kernel
theorem dX7_pass_3 : decode cX7_pass 3 = .ok (.bipush 100, 2) := by decide +kernel
theorem dX7_pass_5 : decode cX7_pass 5 = .ok (.invokestatic 78, 3) := by decide +kernel
theorem dX7_pass_8 : decode cX7_pass 8 = .ok (.ifCond .ne 7, 3) := by decide +kernel
theorem dX7_pass_11 : decode cX7_pass 11 = .ok (.iconst 1, 1) := by decide +kernel
theorem dX7_pass_12 : decode cX7_pass 12 = .ok (.goto 20, 3) := by decide +kernel
theorem dX7_pass_15 : decode cX7_pass 15 = .ok (.aload_n 0, 1) := by decide +kernel
theorem dX7_pass_16 : decode cX7_pass 16 = .ok (.getfield 89, 3) := by decide +kernel
theorem dX7_pass_19 : decode cX7_pass 19 = .ok (.iload_n 1, 1) := by decide +kernel
theorem dX7_pass_20 : decode cX7_pass 20 = .ok (.iadd, 1) := by decide +kernel
theorem dX7_pass_21 : decode cX7_pass 21 = .ok (.sipush 3000, 3) := by decide +kernel
theorem dX7_pass_24 : decode cX7_pass 24 = .ok (.if_icmp .le 7, 3) := by decide +kernel
theorem dX7_pass_27 : decode cX7_pass 27 = .ok (.iconst 2, 1) := by decide +kernel
theorem dX7_pass_28 : decode cX7_pass 28 = .ok (.goto 4, 3) := by decide +kernel
theorem dX7_pass_31 : decode cX7_pass 31 = .ok (.iconst 0, 1) := by decide +kernel
theorem dX7_pass_32 : decode cX7_pass 32 = .ok (.invokevirtual 85, 3) := by decide +kernel
theorem dX7_pass_35 : decode cX7_pass 35 = .ok (.ifCond .ne 5, 3) := by decide +kernel
theorem dX7_pass_38 : decode cX7_pass 38 = .ok (.iconst 0, 1) := by decide +kernel
theorem dX7_pass_39 : decode cX7_pass 39 = .ok (.ireturn, 1) := by decide +kernel
theorem dX7_pass_40 : decode cX7_pass 40 = .ok (.aload_n 0, 1) := by decide +kernel
theorem dX7_pass_41 : decode cX7_pass 41 = .ok (.getfield 82, 3) := by decide +kernel
theorem dX7_pass_44 : decode cX7_pass 44 = .ok (.istore_n 2, 1) := by decide +kernel
theorem dX7_pass_45 : decode cX7_pass 45 = .ok (.iconst 0, 1) := by decide +kernel
theorem dX7_pass_46 : decode cX7_pass 46 = .ok (.istore_n 3, 1) := by decide +kernel
theorem dX7_pass_47 : decode cX7_pass 47 = .ok (.iload_n 3, 1) := by decide +kernel
theorem dX7_pass_48 : decode cX7_pass 48 = .ok (.iload_n 1, 1) := by decide +kernel
theorem dX7_pass_49 : decode cX7_pass 49 = .ok (.if_icmp .ge 13, 3) := by decide +kernel
theorem dX7_pass_52 : decode cX7_pass 52 = .ok (.aload_n 0, 1) := by decide +kernel
theorem dX7_pass_53 : decode cX7_pass 53 = .ok (.invokevirtual 158, 3) := by decide +kernel
theorem dX7_pass_56 : decode cX7_pass 56 = .ok (.iinc 3 1, 3) := by decide +kernel
theorem dX7_pass_59 : decode cX7_pass 59 = .ok (.goto (-12), 3) := by decide +kernel
theorem dX7_pass_62 : decode cX7_pass 62 = .ok (.aload_n 0, 1) := by decide +kernel
theorem dX7_pass_63 : decode cX7_pass 63 = .ok (.getfield 82, 3) := by decide +kernel
theorem dX7_pass_66 : decode cX7_pass 66 = .ok (.iload_n 2, 1) := by decide +kernel
theorem dX7_pass_67 : decode cX7_pass 67 = .ok (.isub, 1) := by decide +kernel
theorem dX7_pass_68 : decode cX7_pass 68 = .ok (.ireturn, 1) := by decide +kernel
theorem dX7_moves_0 : decode cX7_moves 0 = .ok (.aload_n 0, 1) := by decide +kernel
theorem dX7_moves_1 : decode cX7_moves 1 = .ok (.iconst 0, 1) := by decide +kernel
theorem dX7_moves_2 : decode cX7_moves 2 = .ok (.putfield 71, 3) := by decide +kernel
theorem dX7_moves_5 : decode cX7_moves 5 = .ok (.aload_n 0, 1) := by decide +kernel
theorem dX7_moves_6 : decode cX7_moves 6 = .ok (.getfield 82, 3) := by decide +kernel
theorem dX7_moves_9 : decode cX7_moves 9 = .ok (.ireturn, 1) := by decide +kernel
theorem dX7_move_0 : decode cX7_move 0 = .ok (.aload_n 0, 1) := by decide +kernel
theorem dX7_move_1 : decode cX7_move 1 = .ok (.aload_n 0, 1) := by decide +kernel
theorem dX7_move_2 : decode cX7_move 2 = .ok (.iload_n 1, 1) := by decide +kernel
theorem dX7_move_3 : decode cX7_move 3 = .ok (.invokevirtual 161, 3) := by decide +kernel
theorem dX7_move_6 : decode cX7_move 6 = .ok (.ifCond .eq 7, 3) := by decide +kernel
theorem dX7_move_9 : decode cX7_move 9 = .ok (.iconst 0, 1) := by decide +kernel
theorem dX7_move_10 : decode cX7_move 10 = .ok (.goto 4, 3) := by decide +kernel
theorem dX7_move_13 : decode cX7_move 13 = .ok (.iconst 1, 1) := by decide +kernel
theorem dX7_move_14 : decode cX7_move 14 = .ok (.invokevirtual 85, 3) := by decide +kernel
theorem dX7_move_17 : decode cX7_move 17 = .ok (.ifCond .eq 51, 3) := by decide +kernel
theorem dX7_move_20 : decode cX7_move 20 = .ok (.sipush 10000, 3) := by decide +kernel
theorem dX7_move_23 : decode cX7_move 23 = .ok (.aload_n 0, 1) := by decide +kernel
theorem dX7_move_24 : decode cX7_move 24 = .ok (.getfield 55, 3) := by decide +kernel
theorem dX7_move_27 : decode cX7_move 27 = .ok (.iload_n 1, 1) := by decide +kernel
theorem dX7_move_28 : decode cX7_move 28 = .ok (.iaload, 1) := by decide +kernel
theorem dX7_move_29 : decode cX7_move 29 = .ok (.imul, 1) := by decide +kernel
theorem dX7_move_30 : decode cX7_move 30 = .ok (.bipush 100, 2) := by decide +kernel
theorem dX7_move_32 : decode cX7_move 32 = .ok (.aload_n 0, 1) := by decide +kernel
theorem dX7_move_33 : decode cX7_move 33 = .ok (.getfield 58, 3) := by decide +kernel
theorem dX7_move_36 : decode cX7_move 36 = .ok (.iload_n 1, 1) := by decide +kernel
theorem dX7_move_37 : decode cX7_move 37 = .ok (.iaload, 1) := by decide +kernel
theorem dX7_move_38 : decode cX7_move 38 = .ok (.imul, 1) := by decide +kernel
theorem dX7_move_39 : decode cX7_move 39 = .ok (.iadd, 1) := by decide +kernel
theorem dX7_move_40 : decode cX7_move 40 = .ok (.bipush 10, 2) := by decide +kernel
theorem dX7_move_42 : decode cX7_move 42 = .ok (.aload_n 0, 1) := by decide +kernel
theorem dX7_move_43 : decode cX7_move 43 = .ok (.getfield 61, 3) := by decide +kernel
theorem dX7_move_46 : decode cX7_move 46 = .ok (.iload_n 1, 1) := by decide +kernel
theorem dX7_move_47 : decode cX7_move 47 = .ok (.iaload, 1) := by decide +kernel
theorem dX7_move_48 : decode cX7_move 48 = .ok (.imul, 1) := by decide +kernel
theorem dX7_move_49 : decode cX7_move 49 = .ok (.iadd, 1) := by decide +kernel
theorem dX7_move_50 : decode cX7_move 50 = .ok (.aload_n 0, 1) := by decide +kernel
theorem dX7_move_51 : decode cX7_move 51 = .ok (.getfield 67, 3) := by decide +kernel
theorem dX7_move_54 : decode cX7_move 54 = .ok (.iload_n 1, 1) := by decide +kernel
theorem dX7_move_55 : decode cX7_move 55 = .ok (.baload, 1) := by decide +kernel
theorem dX7_move_56 : decode cX7_move 56 = .ok (.ifCond .eq 7, 3) := by decide +kernel
theorem dX7_move_59 : decode cX7_move 59 = .ok (.iconst 1, 1) := by decide +kernel
theorem dX7_move_60 : decode cX7_move 60 = .ok (.goto 4, 3) := by decide +kernel
theorem dX7_move_63 : decode cX7_move 63 = .ok (.iconst 0, 1) := by decide +kernel
theorem dX7_move_64 : decode cX7_move 64 = .ok (.iadd, 1) := by decide +kernel
theorem dX7_move_65 : decode cX7_move 65 = .ok (.goto 4, 3) := by decide +kernel
theorem dX7_move_68 : decode cX7_move 68 = .ok (.iconst 0, 1) := by decide +kernel
theorem dX7_move_69 : decode cX7_move 69 = .ok (.ireturn, 1) := by decide +kernel
theorem dX7_isSound_0 : decode cX7_isSound 0 = .ok (.aload_n 0, 1) := by decide +kernel
theorem dX7_isSound_1 : decode cX7_isSound 1 = .ok (.aload_n 0, 1) := by decide +kernel
theorem dX7_isSound_2 : decode cX7_isSound 2 = .ok (.iload_n 1, 1) := by decide +kernel
theorem dX7_isSound_3 : decode cX7_isSound 3 = .ok (.invokevirtual 161, 3) := by decide +kernel
theorem dX7_isSound_6 : decode cX7_isSound 6 = .ok (.ifCond .eq 7, 3) := by decide +kernel
theorem dX7_isSound_9 : decode cX7_isSound 9 = .ok (.iconst 0, 1) := by decide +kernel
theorem dX7_isSound_10 : decode cX7_isSound 10 = .ok (.goto 4, 3) := by decide +kernel
theorem dX7_isSound_13 : decode cX7_isSound 13 = .ok (.iconst 1, 1) := by decide +kernel
theorem dX7_isSound_14 : decode cX7_isSound 14 = .ok (.invokevirtual 85, 3) := by decide +kernel
theorem dX7_isSound_17 : decode cX7_isSound 17 = .ok (.ireturn, 1) := by decide +kernel
theorem dX7_paid_0 : decode cX7_paid 0 = .ok (.aload_n 0, 1) := by decide +kernel
theorem dX7_paid_1 : decode cX7_paid 1 = .ok (.aload_n 0, 1) := by decide +kernel
theorem dX7_paid_2 : decode cX7_paid 2 = .ok (.iload_n 1, 1) := by decide +kernel
theorem dX7_paid_3 : decode cX7_paid 3 = .ok (.invokevirtual 99, 3) := by decide +kernel
theorem dX7_paid_6 : decode cX7_paid 6 = .ok (.ifCond .eq 7, 3) := by decide +kernel
theorem dX7_paid_9 : decode cX7_paid 9 = .ok (.iconst 0, 1) := by decide +kernel
theorem dX7_paid_10 : decode cX7_paid 10 = .ok (.goto 4, 3) := by decide +kernel
theorem dX7_paid_13 : decode cX7_paid 13 = .ok (.iconst 1, 1) := by decide +kernel
theorem dX7_paid_14 : decode cX7_paid 14 = .ok (.invokevirtual 85, 3) := by decide +kernel
theorem dX7_paid_17 : decode cX7_paid 17 = .ok (.ifCond .eq 12, 3) := by decide +kernel
theorem dX7_paid_20 : decode cX7_paid 20 = .ok (.aload_n 0, 1) := by decide +kernel
theorem dX7_paid_21 : decode cX7_paid 21 = .ok (.getfield 40, 3) := by decide +kernel
theorem dX7_paid_24 : decode cX7_paid 24 = .ok (.iload_n 1, 1) := by decide +kernel
theorem dX7_paid_25 : decode cX7_paid 25 = .ok (.iaload, 1) := by decide +kernel
theorem dX7_paid_26 : decode cX7_paid 26 = .ok (.goto 4, 3) := by decide +kernel
theorem dX7_paid_29 : decode cX7_paid 29 = .ok (.iconst 0, 1) := by decide +kernel
theorem dX7_paid_30 : decode cX7_paid 30 = .ok (.ireturn, 1) := by decide +kernel
theorem dX7_earned_0 : decode cX7_earned 0 = .ok (.aload_n 0, 1) := by decide +kernel
theorem dX7_earned_1 : decode cX7_earned 1 = .ok (.iload_n 1, 1) := by decide +kernel
theorem dX7_earned_2 : decode cX7_earned 2 = .ok (.invokestatic 116, 3) := by decide +kernel
theorem dX7_earned_5 : decode cX7_earned 5 = .ok (.ifCond .eq 7, 3) := by decide +kernel
theorem dX7_earned_8 : decode cX7_earned 8 = .ok (.iconst 0, 1) := by decide +kernel
theorem dX7_earned_9 : decode cX7_earned 9 = .ok (.goto 4, 3) := by decide +kernel
theorem dX7_earned_12 : decode cX7_earned 12 = .ok (.iconst 1, 1) := by decide +kernel
theorem dX7_earned_13 : decode cX7_earned 13 = .ok (.invokevirtual 85, 3) := by decide +kernel
theorem dX7_earned_16 : decode cX7_earned 16 = .ok (.ifCond .eq 12, 3) := by decide +kernel
theorem dX7_earned_19 : decode cX7_earned 19 = .ok (.aload_n 0, 1) := by decide +kernel
theorem dX7_earned_20 : decode cX7_earned 20 = .ok (.getfield 52, 3) := by decide +kernel
theorem dX7_earned_23 : decode cX7_earned 23 = .ok (.iload_n 1, 1) := by decide +kernel
theorem dX7_earned_24 : decode cX7_earned 24 = .ok (.iaload, 1) := by decide +kernel
theorem dX7_earned_25 : decode cX7_earned 25 = .ok (.goto 4, 3) := by decide +kernel
theorem dX7_earned_28 : decode cX7_earned 28 = .ok (.iconst 0, 1) := by decide +kernel
theorem dX7_earned_29 : decode cX7_earned 29 = .ok (.ireturn, 1) := by decide +kernel
theorem dX7_tugPay_0 : decode cX7_tugPay 0 = .ok (.aload_n 0, 1) := by decide +kernel
theorem dX7_tugPay_1 : decode cX7_tugPay 1 = .ok (.iconst 0, 1) := by decide +kernel
theorem dX7_tugPay_2 : decode cX7_tugPay 2 = .ok (.putfield 71, 3) := by decide +kernel
theorem dX7_tugPay_5 : decode cX7_tugPay 5 = .ok (.aload_n 0, 1) := by decide +kernel
theorem dX7_tugPay_6 : decode cX7_tugPay 6 = .ok (.getfield 136, 3) := by decide +kernel
theorem dX7_tugPay_9 : decode cX7_tugPay 9 = .ok (.ireturn, 1) := by decide +kernel
theorem dX7_port_0 : decode cX7_port 0 = .ok (.aload_n 0, 1) := by decide +kernel
theorem dX7_port_1 : decode cX7_port 1 = .ok (.iconst 0, 1) := by decide +kernel
theorem dX7_port_2 : decode cX7_port 2 = .ok (.putfield 71, 3) := by decide +kernel
theorem dX7_port_5 : decode cX7_port 5 = .ok (.aload_n 0, 1) := by decide +kernel
theorem dX7_port_6 : decode cX7_port 6 = .ok (.getfield 139, 3) := by decide +kernel
theorem dX7_port_9 : decode cX7_port 9 = .ok (.ireturn, 1) := by decide +kernel
theorem dX7_lost_0 : decode cX7_lost 0 = .ok (.aload_n 0, 1) := by decide +kernel
theorem dX7_lost_1 : decode cX7_lost 1 = .ok (.aload_n 0, 1) := by decide +kernel
theorem dX7_lost_2 : decode cX7_lost 2 = .ok (.iload_n 1, 1) := by decide +kernel
theorem dX7_lost_3 : decode cX7_lost 3 = .ok (.invokevirtual 99, 3) := by decide +kernel
theorem dX7_lost_6 : decode cX7_lost 6 = .ok (.ifCond .eq 7, 3) := by decide +kernel
theorem dX7_lost_9 : decode cX7_lost 9 = .ok (.iconst 0, 1) := by decide +kernel
theorem dX7_lost_10 : decode cX7_lost 10 = .ok (.goto 4, 3) := by decide +kernel
theorem dX7_lost_13 : decode cX7_lost 13 = .ok (.iconst 1, 1) := by decide +kernel
theorem dX7_lost_14 : decode cX7_lost 14 = .ok (.invokevirtual 85, 3) := by decide +kernel
theorem dX7_lost_17 : decode cX7_lost 17 = .ok (.ifCond .eq 12, 3) := by decide +kernel
theorem dX7_lost_20 : decode cX7_lost 20 = .ok (.aload_n 0, 1) := by decide +kernel
theorem dX7_lost_21 : decode cX7_lost 21 = .ok (.getfield 43, 3) := by decide +kernel
theorem dX7_lost_24 : decode cX7_lost 24 = .ok (.iload_n 1, 1) := by decide +kernel
theorem dX7_lost_25 : decode cX7_lost 25 = .ok (.iaload, 1) := by decide +kernel
theorem dX7_lost_26 : decode cX7_lost 26 = .ok (.goto 4, 3) := by decide +kernel
theorem dX7_lost_29 : decode cX7_lost 29 = .ok (.iconst 0, 1) := by decide +kernel
theorem dX7_lost_30 : decode cX7_lost 30 = .ok (.ireturn, 1) := by decide +kernel
theorem dX7_claims_0 : decode cX7_claims 0 = .ok (.aload_n 0, 1) := by decide +kernel
theorem dX7_claims_1 : decode cX7_claims 1 = .ok (.aload_n 0, 1) := by decide +kernel
theorem dX7_claims_2 : decode cX7_claims 2 = .ok (.iload_n 1, 1) := by decide +kernel
theorem dX7_claims_3 : decode cX7_claims 3 = .ok (.invokevirtual 99, 3) := by decide +kernel
theorem dX7_claims_6 : decode cX7_claims 6 = .ok (.ifCond .eq 7, 3) := by decide +kernel
theorem dX7_claims_9 : decode cX7_claims 9 = .ok (.iconst 0, 1) := by decide +kernel
theorem dX7_claims_10 : decode cX7_claims 10 = .ok (.goto 4, 3) := by decide +kernel
theorem dX7_claims_13 : decode cX7_claims 13 = .ok (.iconst 1, 1) := by decide +kernel
theorem dX7_claims_14 : decode cX7_claims 14 = .ok (.invokevirtual 85, 3) := by decide +kernel
theorem dX7_claims_17 : decode cX7_claims 17 = .ok (.ifCond .eq 12, 3) := by decide +kernel
theorem dX7_claims_20 : decode cX7_claims 20 = .ok (.aload_n 0, 1) := by decide +kernel
theorem dX7_claims_21 : decode cX7_claims 21 = .ok (.getfield 46, 3) := by decide +kernel
theorem dX7_claims_24 : decode cX7_claims 24 = .ok (.iload_n 1, 1) := by decide +kernel
theorem dX7_claims_25 : decode cX7_claims 25 = .ok (.iaload, 1) := by decide +kernel
theorem dX7_claims_26 : decode cX7_claims 26 = .ok (.goto 4, 3) := by decide +kernel
theorem dX7_claims_29 : decode cX7_claims 29 = .ok (.iconst 0, 1) := by decide +kernel
theorem dX7_claims_30 : decode cX7_claims 30 = .ok (.ireturn, 1) := by decide +kernel
theorem dX7_payClaim_0 : decode cX7_payClaim 0 = .ok (.aload_n 0, 1) := by decide +kernel
theorem dX7_payClaim_1 : decode cX7_payClaim 1 = .ok (.iload_n 1, 1) := by decide +kernel
theorem dX7_payClaim_2 : decode cX7_payClaim 2 = .ok (.invokevirtual 99, 3) := by decide +kernel
theorem dX7_payClaim_5 : decode cX7_payClaim 5 = .ok (.istore_n 2, 1) := by decide +kernel
theorem dX7_payClaim_6 : decode cX7_payClaim 6 = .ok (.aload_n 0, 1) := by decide +kernel
theorem dX7_payClaim_7 : decode cX7_payClaim 7 = .ok (.iload_n 2, 1) := by decide +kernel
theorem dX7_payClaim_8 : decode cX7_payClaim 8 = .ok (.ifCond .ne 7, 3) := by decide +kernel
theorem dX7_payClaim_11 : decode cX7_payClaim 11 = .ok (.iconst 1, 1) := by decide +kernel
theorem dX7_payClaim_12 : decode cX7_payClaim 12 = .ok (.goto 17, 3) := by decide +kernel
theorem dX7_payClaim_15 : decode cX7_payClaim 15 = .ok (.aload_n 0, 1) := by decide +kernel
theorem dX7_payClaim_16 : decode cX7_payClaim 16 = .ok (.getfield 46, 3) := by decide +kernel
theorem dX7_payClaim_19 : decode cX7_payClaim 19 = .ok (.iload_n 1, 1) := by decide +kernel
theorem dX7_payClaim_20 : decode cX7_payClaim 20 = .ok (.iaload, 1) := by decide +kernel
theorem dX7_payClaim_21 : decode cX7_payClaim 21 = .ok (.ifCond .ne 7, 3) := by decide +kernel
theorem dX7_payClaim_24 : decode cX7_payClaim 24 = .ok (.iconst 2, 1) := by decide +kernel
theorem dX7_payClaim_25 : decode cX7_payClaim 25 = .ok (.goto 4, 3) := by decide +kernel
theorem dX7_payClaim_28 : decode cX7_payClaim 28 = .ok (.iconst 0, 1) := by decide +kernel
theorem dX7_payClaim_29 : decode cX7_payClaim 29 = .ok (.invokevirtual 85, 3) := by decide +kernel
theorem dX7_payClaim_32 : decode cX7_payClaim 32 = .ok (.ifCond .ne 5, 3) := by decide +kernel
theorem dX7_payClaim_35 : decode cX7_payClaim 35 = .ok (.iconst 0, 1) := by decide +kernel
theorem dX7_payClaim_36 : decode cX7_payClaim 36 = .ok (.ireturn, 1) := by decide +kernel
theorem dX7_payClaim_37 : decode cX7_payClaim 37 = .ok (.aload_n 0, 1) := by decide +kernel
theorem dX7_payClaim_38 : decode cX7_payClaim 38 = .ok (.getfield 46, 3) := by decide +kernel
theorem dX7_payClaim_41 : decode cX7_payClaim 41 = .ok (.iload_n 1, 1) := by decide +kernel
theorem dX7_payClaim_42 : decode cX7_payClaim 42 = .ok (.dup2, 1) := by decide +kernel
theorem dX7_payClaim_43 : decode cX7_payClaim 43 = .ok (.iaload, 1) := by decide +kernel
theorem dX7_payClaim_44 : decode cX7_payClaim 44 = .ok (.iconst 1, 1) := by decide +kernel
theorem dX7_payClaim_45 : decode cX7_payClaim 45 = .ok (.isub, 1) := by decide +kernel
theorem dX7_payClaim_46 : decode cX7_payClaim 46 = .ok (.iastore, 1) := by decide +kernel
theorem dX7_payClaim_47 : decode cX7_payClaim 47 = .ok (.aload_n 0, 1) := by decide +kernel
theorem dX7_payClaim_48 : decode cX7_payClaim 48 = .ok (.getfield 40, 3) := by decide +kernel
theorem dX7_payClaim_51 : decode cX7_payClaim 51 = .ok (.iload_n 1, 1) := by decide +kernel
theorem dX7_payClaim_52 : decode cX7_payClaim 52 = .ok (.dup2, 1) := by decide +kernel
theorem dX7_payClaim_53 : decode cX7_payClaim 53 = .ok (.iaload, 1) := by decide +kernel
theorem dX7_payClaim_54 : decode cX7_payClaim 54 = .ok (.bipush 80, 2) := by decide +kernel
theorem dX7_payClaim_56 : decode cX7_payClaim 56 = .ok (.aload_n 0, 1) := by decide +kernel
theorem dX7_payClaim_57 : decode cX7_payClaim 57 = .ok (.getfield 19, 3) := by decide +kernel
theorem dX7_payClaim_60 : decode cX7_payClaim 60 = .ok (.iload_n 1, 1) := by decide +kernel
theorem dX7_payClaim_61 : decode cX7_payClaim 61 = .ok (.iaload, 1) := by decide +kernel
theorem dX7_payClaim_62 : decode cX7_payClaim 62 = .ok (.imul, 1) := by decide +kernel
theorem dX7_payClaim_63 : decode cX7_payClaim 63 = .ok (.isub, 1) := by decide +kernel
theorem dX7_payClaim_64 : decode cX7_payClaim 64 = .ok (.iastore, 1) := by decide +kernel
theorem dX7_payClaim_65 : decode cX7_payClaim 65 = .ok (.aload_n 0, 1) := by decide +kernel
theorem dX7_payClaim_66 : decode cX7_payClaim 66 = .ok (.dup, 1) := by decide +kernel
theorem dX7_payClaim_67 : decode cX7_payClaim 67 = .ok (.getfield 139, 3) := by decide +kernel
theorem dX7_payClaim_70 : decode cX7_payClaim 70 = .ok (.bipush 80, 2) := by decide +kernel
theorem dX7_payClaim_72 : decode cX7_payClaim 72 = .ok (.aload_n 0, 1) := by decide +kernel
theorem dX7_payClaim_73 : decode cX7_payClaim 73 = .ok (.getfield 19, 3) := by decide +kernel
theorem dX7_payClaim_76 : decode cX7_payClaim 76 = .ok (.iload_n 1, 1) := by decide +kernel
theorem dX7_payClaim_77 : decode cX7_payClaim 77 = .ok (.iaload, 1) := by decide +kernel
theorem dX7_payClaim_78 : decode cX7_payClaim 78 = .ok (.imul, 1) := by decide +kernel
theorem dX7_payClaim_79 : decode cX7_payClaim 79 = .ok (.isub, 1) := by decide +kernel
theorem dX7_payClaim_80 : decode cX7_payClaim 80 = .ok (.putfield 139, 3) := by decide +kernel
theorem dX7_payClaim_83 : decode cX7_payClaim 83 = .ok (.bipush 80, 2) := by decide +kernel
theorem dX7_payClaim_85 : decode cX7_payClaim 85 = .ok (.aload_n 0, 1) := by decide +kernel
theorem dX7_payClaim_86 : decode cX7_payClaim 86 = .ok (.getfield 19, 3) := by decide +kernel
theorem dX7_payClaim_89 : decode cX7_payClaim 89 = .ok (.iload_n 1, 1) := by decide +kernel
theorem dX7_payClaim_90 : decode cX7_payClaim 90 = .ok (.iaload, 1) := by decide +kernel
theorem dX7_payClaim_91 : decode cX7_payClaim 91 = .ok (.imul, 1) := by decide +kernel
theorem dX7_payClaim_92 : decode cX7_payClaim 92 = .ok (.ireturn, 1) := by decide +kernel
end
section
/-! THE REFERENCE'S WORLD: F the numbers by their slots, G the rows by their slots, ad the addresses (0: the object) -/
def hu {α : Type} (f : Nat → α) (k : Nat) (v : α) : Nat → α := fun j => match Nat.beq j k with
  | true => v
  | false => f j
theorem hu_same {α : Type} (f : Nat → α) (k : Nat) (v : α) : hu f k v k = v := by unfold hu; rw [Nat.beq_refl]
theorem hu_ne {α : Type} (f : Nat → α) {k j : Nat} (v : α) (h : j ≠ k) : hu f k v j = f j := by
  unfold hu
  split
  · rename_i hb
    exact absurd (Nat.eq_of_beq_eq_true hb) h
  · rfl
theorem lok_of {L : List (Nat × Value)} (h : lnd L = true) (h2 : (L.all fun q => q.2.category == 1) = true) : lok L := ⟨h, fun q hq => by have := List.all_eq_true.mp h2 q hq; simpa using this⟩
theorem vp_lit {i : Int32} {n : Nat} (h : decide (i < 0 ∨ n ≤ i.toNatClampNeg) = false) : vp_in i n := of_decide_eq_false h
theorem cl_int (x : Int32) : (x.toNatClampNeg : Int) = max 0 x.toInt := by
  show ((x.toInt.toNat : Nat) : Int) = _
  omega
theorem cl_small (x : Int32) : x.toNatClampNeg < 2 ^ 31 := by
  have h := cl_int x
  have h2 := Int32.toInt_lt x
  omega
theorem cl_lt {x : Int32} {j N : Nat} (h : x.toNatClampNeg = N) (hj : j < N) : ¬ x ≤ nI j := by
  have h1 := cl_int x
  have h2 := cl_small x
  rw [Int32.le_iff_toInt_le, nI_toInt (by omega)]
  omega
theorem cl_le {x : Int32} {N : Nat} (h : x.toNatClampNeg = N) : x ≤ nI N := by
  have h1 := cl_int x
  have h2 := cl_small x
  rw [Int32.le_iff_toInt_le, nI_toInt (by omega)]
  omega
theorem nI_inc (j : Nat) : nI j + Int32.ofInt 1 = nI (j + 1) := nI_1 j
theorem vp_nI {j N : Nat} (h : j < N) (hN : N ≤ 4000) : vp_in (nI j) N := vp_in_nI h (by omega)
def fsR (ad : Nat → Nat) (f0 f1 f5 f18 f19 f20 : Int32) : List Value := [.int f0, .int f1, .ref (ad 2), .ref (ad 3), .ref (ad 4), .int f5, .ref (ad 6), .ref (ad 7), .ref (ad 8), .ref (ad 9), .ref (ad 10), .ref (ad 11), .ref (ad 12), .ref (ad 13), .ref (ad 14), .ref (ad 15), .ref (ad 16), .ref (ad 17), .int f18, .int f19, .int f20, .ref (ad 21), .ref (ad 22), .ref (ad 23), .ref (ad 24), .ref (ad 25)]
def wsR (Y : Nat → ClassId) (ad : Nat → Nat) (f0 f1 f5 f18 f19 f20 : Int32) (g2 g3 g4 g6 g7 g8 g9 g10 g11 g12 g13 g14 g15 g16 g17 g21 g22 g23 g24 g25 : Nat → Int32) : va_W := [(ad 0, .inr (10, fsR ad f0 f1 f5 f18 f19 f20)), (ad 2, .inl (Y 0, 12, .inl g2)), (ad 3, .inl (Y 0, 3160, .inl g3)), (ad 4, .inl (Y 0, 6, .inl g4)), (ad 6, .inl (Y 0, 30, .inl g6)), (ad 7, .inl (Y 0, 30, .inl g7)), (ad 8, .inl (Y 0, 30, .inl g8)), (ad 9, .inl (Y 0, 30, .inl g9)), (ad 10, .inl (Y 0, 30, .inl g10)), (ad 11, .inl (Y 0, 30, .inl g11)), (ad 12, .inl (Y 0, 30, .inl g12)), (ad 13, .inl (Y 0, 30, .inl g13)), (ad 14, .inl (Y 0, 30, .inl g14)), (ad 15, .inl (Y 0, 30, .inl g15)), (ad 16, .inl (Y 0, 6, .inl g16)), (ad 17, .inl (Y 0, 6, .inl g17)), (ad 21, .inl (Y 0, 100, .inl g21)), (ad 22, .inl (Y 0, 100, .inl g22)), (ad 23, .inl (Y 0, 100, .inl g23)), (ad 24, .inl (Y 0, 100, .inl g24)), (ad 25, .inl (Y 1, 100, .inl g25))]
def OV (D : va_G) (Y : Nat → ClassId) (A : Nat → Prop) (ad : Nat → Nat) (f0 f1 f5 f18 f19 f20 : Int32) (g2 g3 g4 g6 g7 g8 g9 g10 g11 g12 g13 g14 g15 g16 g17 g21 g22 g23 g24 g25 : Nat → Int32) : Heap → Prop := Ow D A (wsR Y ad f0 f1 f5 f18 f19 f20 g2 g3 g4 g6 g7 g8 g9 g10 g11 g12 g13 g14 g15 g16 g17 g21 g22 g23 g24 g25)
abbrev OR (D : va_G) (Y : Nat → ClassId) (A : Nat → Prop) (ad : Nat → Nat) (F : Nat → Int32) (G : Nat → Nat → Int32) : Heap → Prop := OV D Y A ad (F 0) (F 1) (F 5) (F 18) (F 19) (F 20) (G 2) (G 3) (G 4) (G 6) (G 7) (G 8) (G 9) (G 10) (G 11) (G 12) (G 13) (G 14) (G 15) (G 16) (G 17) (G 21) (G 22) (G 23) (G 24) (G 25)
section RR
variable {p : Program} {l : Launch} {e : Env} {R : Room} {s : State} {m : MethodId} {args : Array Value} {below : List Frame} {meth : Method} {c : Code} {Q : State → Prop} {cells slots pc nL : Nat} {L : List (Nat × Value)} {st : List Value} {cc : ByteArray} {ret : Option FieldType} {D : va_G} {Y : Nat → ClassId} {A : Nat → Prop} {E : State → Prop} {ad : Nat → Nat} {f0 f1 f5 f18 f19 f20 : Int32} {g2 g3 g4 g6 g7 g8 g9 g10 g11 g12 g13 g14 g15 g16 g17 g21 g22 g23 g24 g25 : Nat → Int32}
theorem j_top {Ω : Heap → Prop} {x : Int32} (y : Int32) (h : x = y) (kk : J p l e R s m args below meth c A nL Q Ω cells slots pc L (.int y :: st)) : J p l e R s m args below meth c A nL Q Ω cells slots pc L (.int x :: st) := h ▸ kk
theorem r_recv (C0 : CX p l s m args meth c RX7 cc nL ret D Y A E) : RV s (OV D Y A ad f0 f1 f5 f18 f19 f20 g2 g3 g4 g6 g7 g8 g9 g10 g11 g12 g13 g14 g15 g16 g17 g21 g22 g23 g24 g25) RX7 (ad 0) := j_recv C0 (ws := wsR Y ad f0 f1 f5 f18 f19 f20 g2 g3 g4 g6 g7 g8 g9 g10 g11 g12 g13 g14 g15 g16 g17 g21 g22 g23 g24 g25) (ci := 10) rfl 0 rfl
theorem j_iretE {Ω Ω' : Heap → Prop} {own : String} (C0 : CX p l s m args meth c own cc nL ret D Y A E) (hr : ret = some .int) {x v : Int32} (hv : x = v) (d : decode cc pc = .ok (.ireturn, 1)) (hΩ : ∀ H, Ω H → Ω' H) : J p l e R s m args below meth c A nL (MQ below (KQ A Ω' (some (.int x))) args s cells slots A) Ω cells slots pc L [.int v] := by subst hv; exact j_iret C0 hr d hΩ
theorem j_zretE {Ω Ω' : Heap → Prop} {own : String} (C0 : CX p l s m args meth c own cc nL ret D Y A E) (hr : ret = some .boolean) {x v : Int32} (hv : x = v) (hb : narrow .boolean (.int v) = .int v) (d : decode cc pc = .ok (.ireturn, 1)) (hΩ : ∀ H, Ω H → Ω' H) : J p l e R s m args below meth c A nL (MQ below (KQ A Ω' (some (.int x))) args s cells slots A) Ω cells slots pc L [.int v] := by subst hv; exact j_zret C0 hr hb d hΩ
theorem r_gf_0 (C0 : CX p l s m args meth c RX7 cc nL ret D Y A E) {v : Int32} (d : decode cc pc = .ok (.getfield 71, 3)) (hv : f0 = v) (kk : J p l e R s m args below meth c A nL Q (OV D Y A ad f0 f1 f5 f18 f19 f20 g2 g3 g4 g6 g7 g8 g9 g10 g11 g12 g13 g14 g15 g16 g17 g21 g22 g23 g24 g25) cells slots (pc + 3) L (.int v :: st)) : J p l e R s m args below meth c A nL Q (OV D Y A ad f0 f1 f5 f18 f19 f20 g2 g3 g4 g6 g7 g8 g9 g10 g11 g12 g13 g14 g15 g16 g17 g21 g22 g23 g24 g25) cells slots pc L (.ref (ad 0) :: st) := by subst hv; exact j_get (ws := wsR Y ad f0 f1 f5 f18 f19 f20 g2 g3 g4 g6 g7 g8 g9 g10 g11 g12 g13 g14 g15 g16 g17 g21 g22 g23 g24 g25) C0 in_X7 (ci := 10) rfl 0 (fs := fsR ad f0 f1 f5 f18 f19 f20) rfl 0 (by decide) wf_X7_71 rfl d kk
theorem r_pf_0 (C0 : CX p l s m args meth c RX7 cc nL ret D Y A E) {v : Int32} (d : decode cc pc = .ok (.putfield 71, 3)) (kk : J p l e R s m args below meth c A nL Q (OV D Y A ad v f1 f5 f18 f19 f20 g2 g3 g4 g6 g7 g8 g9 g10 g11 g12 g13 g14 g15 g16 g17 g21 g22 g23 g24 g25) cells slots (pc + 3) L st) : J p l e R s m args below meth c A nL Q (OV D Y A ad f0 f1 f5 f18 f19 f20 g2 g3 g4 g6 g7 g8 g9 g10 g11 g12 g13 g14 g15 g16 g17 g21 g22 g23 g24 g25) cells slots pc L (.int v :: .ref (ad 0) :: st) := j_put (ws := wsR Y ad f0 f1 f5 f18 f19 f20 g2 g3 g4 g6 g7 g8 g9 g10 g11 g12 g13 g14 g15 g16 g17 g21 g22 g23 g24 g25) C0 in_X7 tyX7 tyX7_ok nmX7 (ci := 10) rfl 0 (fs := fsR ad f0 f1 f5 f18 f19 f20) rfl 0 (by decide) wf_X7_71 rfl (t := .int) (by decide +kernel) rfl rfl (Nat.le_of_ble_eq_true rfl) d kk
theorem r_gf_1 (C0 : CX p l s m args meth c RX7 cc nL ret D Y A E) {v : Int32} (d : decode cc pc = .ok (.getfield 89, 3)) (hv : f1 = v) (kk : J p l e R s m args below meth c A nL Q (OV D Y A ad f0 f1 f5 f18 f19 f20 g2 g3 g4 g6 g7 g8 g9 g10 g11 g12 g13 g14 g15 g16 g17 g21 g22 g23 g24 g25) cells slots (pc + 3) L (.int v :: st)) : J p l e R s m args below meth c A nL Q (OV D Y A ad f0 f1 f5 f18 f19 f20 g2 g3 g4 g6 g7 g8 g9 g10 g11 g12 g13 g14 g15 g16 g17 g21 g22 g23 g24 g25) cells slots pc L (.ref (ad 0) :: st) := by subst hv; exact j_get (ws := wsR Y ad f0 f1 f5 f18 f19 f20 g2 g3 g4 g6 g7 g8 g9 g10 g11 g12 g13 g14 g15 g16 g17 g21 g22 g23 g24 g25) C0 in_X7 (ci := 10) rfl 0 (fs := fsR ad f0 f1 f5 f18 f19 f20) rfl 1 (by decide) wf_X7_89 rfl d kk
theorem r_pf_1 (C0 : CX p l s m args meth c RX7 cc nL ret D Y A E) {v : Int32} (d : decode cc pc = .ok (.putfield 89, 3)) (kk : J p l e R s m args below meth c A nL Q (OV D Y A ad f0 v f5 f18 f19 f20 g2 g3 g4 g6 g7 g8 g9 g10 g11 g12 g13 g14 g15 g16 g17 g21 g22 g23 g24 g25) cells slots (pc + 3) L st) : J p l e R s m args below meth c A nL Q (OV D Y A ad f0 f1 f5 f18 f19 f20 g2 g3 g4 g6 g7 g8 g9 g10 g11 g12 g13 g14 g15 g16 g17 g21 g22 g23 g24 g25) cells slots pc L (.int v :: .ref (ad 0) :: st) := j_put (ws := wsR Y ad f0 f1 f5 f18 f19 f20 g2 g3 g4 g6 g7 g8 g9 g10 g11 g12 g13 g14 g15 g16 g17 g21 g22 g23 g24 g25) C0 in_X7 tyX7 tyX7_ok nmX7 (ci := 10) rfl 0 (fs := fsR ad f0 f1 f5 f18 f19 f20) rfl 1 (by decide) wf_X7_89 rfl (t := .int) (by decide +kernel) rfl rfl (Nat.le_of_ble_eq_true rfl) d kk
theorem r_gf_2 (C0 : CX p l s m args meth c RX7 cc nL ret D Y A E) (d : decode cc pc = .ok (.getfield 7, 3)) (kk : J p l e R s m args below meth c A nL Q (OV D Y A ad f0 f1 f5 f18 f19 f20 g2 g3 g4 g6 g7 g8 g9 g10 g11 g12 g13 g14 g15 g16 g17 g21 g22 g23 g24 g25) cells slots (pc + 3) L (.ref (ad 2) :: st)) : J p l e R s m args below meth c A nL Q (OV D Y A ad f0 f1 f5 f18 f19 f20 g2 g3 g4 g6 g7 g8 g9 g10 g11 g12 g13 g14 g15 g16 g17 g21 g22 g23 g24 g25) cells slots pc L (.ref (ad 0) :: st) := j_get (ws := wsR Y ad f0 f1 f5 f18 f19 f20 g2 g3 g4 g6 g7 g8 g9 g10 g11 g12 g13 g14 g15 g16 g17 g21 g22 g23 g24 g25) C0 in_X7 (ci := 10) rfl 0 (fs := fsR ad f0 f1 f5 f18 f19 f20) rfl 2 (by decide) wf_X7_7 rfl d kk
theorem r_ld_2 (C0 : CX p l s m args meth c RX7 cc nL ret D Y A E) {i v : Int32} (hi : vp_in i 12) (d : decode cc pc = .ok (.iaload, 1)) (hv : g2 i.toNatClampNeg = v) (kk : J p l e R s m args below meth c A nL Q (OV D Y A ad f0 f1 f5 f18 f19 f20 g2 g3 g4 g6 g7 g8 g9 g10 g11 g12 g13 g14 g15 g16 g17 g21 g22 g23 g24 g25) cells slots (pc + 1) L (.int v :: st)) : J p l e R s m args below meth c A nL Q (OV D Y A ad f0 f1 f5 f18 f19 f20 g2 g3 g4 g6 g7 g8 g9 g10 g11 g12 g13 g14 g15 g16 g17 g21 g22 g23 g24 g25) cells slots pc L (.int i :: .ref (ad 2) :: st) := by subst hv; exact j_iald (ws := wsR Y ad f0 f1 f5 f18 f19 f20 g2 g3 g4 g6 g7 g8 g9 g10 g11 g12 g13 g14 g15 g16 g17 g21 g22 g23 g24 g25) C0 1 rfl hi d kk
theorem r_st_2 (C0 : CX p l s m args meth c RX7 cc nL ret D Y A E) {i x : Int32} (hi : vp_in i 12) (d : decode cc pc = .ok (.iastore, 1)) (kk : J p l e R s m args below meth c A nL Q (OV D Y A ad f0 f1 f5 f18 f19 f20 (upd g2 i.toNatClampNeg (x)) g3 g4 g6 g7 g8 g9 g10 g11 g12 g13 g14 g15 g16 g17 g21 g22 g23 g24 g25) cells slots (pc + 1) L st) : J p l e R s m args below meth c A nL Q (OV D Y A ad f0 f1 f5 f18 f19 f20 g2 g3 g4 g6 g7 g8 g9 g10 g11 g12 g13 g14 g15 g16 g17 g21 g22 g23 g24 g25) cells slots pc L (.int x :: .int i :: .ref (ad 2) :: st) := j_iast (ws := wsR Y ad f0 f1 f5 f18 f19 f20 g2 g3 g4 g6 g7 g8 g9 g10 g11 g12 g13 g14 g15 g16 g17 g21 g22 g23 g24 g25) C0 1 rfl hi d kk
theorem r_gf_3 (C0 : CX p l s m args meth c RX7 cc nL ret D Y A E) (d : decode cc pc = .ok (.getfield 13, 3)) (kk : J p l e R s m args below meth c A nL Q (OV D Y A ad f0 f1 f5 f18 f19 f20 g2 g3 g4 g6 g7 g8 g9 g10 g11 g12 g13 g14 g15 g16 g17 g21 g22 g23 g24 g25) cells slots (pc + 3) L (.ref (ad 3) :: st)) : J p l e R s m args below meth c A nL Q (OV D Y A ad f0 f1 f5 f18 f19 f20 g2 g3 g4 g6 g7 g8 g9 g10 g11 g12 g13 g14 g15 g16 g17 g21 g22 g23 g24 g25) cells slots pc L (.ref (ad 0) :: st) := j_get (ws := wsR Y ad f0 f1 f5 f18 f19 f20 g2 g3 g4 g6 g7 g8 g9 g10 g11 g12 g13 g14 g15 g16 g17 g21 g22 g23 g24 g25) C0 in_X7 (ci := 10) rfl 0 (fs := fsR ad f0 f1 f5 f18 f19 f20) rfl 3 (by decide) wf_X7_13 rfl d kk
theorem r_ld_3 (C0 : CX p l s m args meth c RX7 cc nL ret D Y A E) {i v : Int32} (hi : vp_in i 3160) (d : decode cc pc = .ok (.iaload, 1)) (hv : g3 i.toNatClampNeg = v) (kk : J p l e R s m args below meth c A nL Q (OV D Y A ad f0 f1 f5 f18 f19 f20 g2 g3 g4 g6 g7 g8 g9 g10 g11 g12 g13 g14 g15 g16 g17 g21 g22 g23 g24 g25) cells slots (pc + 1) L (.int v :: st)) : J p l e R s m args below meth c A nL Q (OV D Y A ad f0 f1 f5 f18 f19 f20 g2 g3 g4 g6 g7 g8 g9 g10 g11 g12 g13 g14 g15 g16 g17 g21 g22 g23 g24 g25) cells slots pc L (.int i :: .ref (ad 3) :: st) := by subst hv; exact j_iald (ws := wsR Y ad f0 f1 f5 f18 f19 f20 g2 g3 g4 g6 g7 g8 g9 g10 g11 g12 g13 g14 g15 g16 g17 g21 g22 g23 g24 g25) C0 2 rfl hi d kk
theorem r_st_3 (C0 : CX p l s m args meth c RX7 cc nL ret D Y A E) {i x : Int32} (hi : vp_in i 3160) (d : decode cc pc = .ok (.iastore, 1)) (kk : J p l e R s m args below meth c A nL Q (OV D Y A ad f0 f1 f5 f18 f19 f20 g2 (upd g3 i.toNatClampNeg (x)) g4 g6 g7 g8 g9 g10 g11 g12 g13 g14 g15 g16 g17 g21 g22 g23 g24 g25) cells slots (pc + 1) L st) : J p l e R s m args below meth c A nL Q (OV D Y A ad f0 f1 f5 f18 f19 f20 g2 g3 g4 g6 g7 g8 g9 g10 g11 g12 g13 g14 g15 g16 g17 g21 g22 g23 g24 g25) cells slots pc L (.int x :: .int i :: .ref (ad 3) :: st) := j_iast (ws := wsR Y ad f0 f1 f5 f18 f19 f20 g2 g3 g4 g6 g7 g8 g9 g10 g11 g12 g13 g14 g15 g16 g17 g21 g22 g23 g24 g25) C0 2 rfl hi d kk
theorem r_gf_4 (C0 : CX p l s m args meth c RX7 cc nL ret D Y A E) (d : decode cc pc = .ok (.getfield 16, 3)) (kk : J p l e R s m args below meth c A nL Q (OV D Y A ad f0 f1 f5 f18 f19 f20 g2 g3 g4 g6 g7 g8 g9 g10 g11 g12 g13 g14 g15 g16 g17 g21 g22 g23 g24 g25) cells slots (pc + 3) L (.ref (ad 4) :: st)) : J p l e R s m args below meth c A nL Q (OV D Y A ad f0 f1 f5 f18 f19 f20 g2 g3 g4 g6 g7 g8 g9 g10 g11 g12 g13 g14 g15 g16 g17 g21 g22 g23 g24 g25) cells slots pc L (.ref (ad 0) :: st) := j_get (ws := wsR Y ad f0 f1 f5 f18 f19 f20 g2 g3 g4 g6 g7 g8 g9 g10 g11 g12 g13 g14 g15 g16 g17 g21 g22 g23 g24 g25) C0 in_X7 (ci := 10) rfl 0 (fs := fsR ad f0 f1 f5 f18 f19 f20) rfl 4 (by decide) wf_X7_16 rfl d kk
theorem r_ld_4 (C0 : CX p l s m args meth c RX7 cc nL ret D Y A E) {i v : Int32} (hi : vp_in i 6) (d : decode cc pc = .ok (.iaload, 1)) (hv : g4 i.toNatClampNeg = v) (kk : J p l e R s m args below meth c A nL Q (OV D Y A ad f0 f1 f5 f18 f19 f20 g2 g3 g4 g6 g7 g8 g9 g10 g11 g12 g13 g14 g15 g16 g17 g21 g22 g23 g24 g25) cells slots (pc + 1) L (.int v :: st)) : J p l e R s m args below meth c A nL Q (OV D Y A ad f0 f1 f5 f18 f19 f20 g2 g3 g4 g6 g7 g8 g9 g10 g11 g12 g13 g14 g15 g16 g17 g21 g22 g23 g24 g25) cells slots pc L (.int i :: .ref (ad 4) :: st) := by subst hv; exact j_iald (ws := wsR Y ad f0 f1 f5 f18 f19 f20 g2 g3 g4 g6 g7 g8 g9 g10 g11 g12 g13 g14 g15 g16 g17 g21 g22 g23 g24 g25) C0 3 rfl hi d kk
theorem r_st_4 (C0 : CX p l s m args meth c RX7 cc nL ret D Y A E) {i x : Int32} (hi : vp_in i 6) (d : decode cc pc = .ok (.iastore, 1)) (kk : J p l e R s m args below meth c A nL Q (OV D Y A ad f0 f1 f5 f18 f19 f20 g2 g3 (upd g4 i.toNatClampNeg (x)) g6 g7 g8 g9 g10 g11 g12 g13 g14 g15 g16 g17 g21 g22 g23 g24 g25) cells slots (pc + 1) L st) : J p l e R s m args below meth c A nL Q (OV D Y A ad f0 f1 f5 f18 f19 f20 g2 g3 g4 g6 g7 g8 g9 g10 g11 g12 g13 g14 g15 g16 g17 g21 g22 g23 g24 g25) cells slots pc L (.int x :: .int i :: .ref (ad 4) :: st) := j_iast (ws := wsR Y ad f0 f1 f5 f18 f19 f20 g2 g3 g4 g6 g7 g8 g9 g10 g11 g12 g13 g14 g15 g16 g17 g21 g22 g23 g24 g25) C0 3 rfl hi d kk
theorem r_gf_5 (C0 : CX p l s m args meth c RX7 cc nL ret D Y A E) {v : Int32} (d : decode cc pc = .ok (.getfield 75, 3)) (hv : f5 = v) (kk : J p l e R s m args below meth c A nL Q (OV D Y A ad f0 f1 f5 f18 f19 f20 g2 g3 g4 g6 g7 g8 g9 g10 g11 g12 g13 g14 g15 g16 g17 g21 g22 g23 g24 g25) cells slots (pc + 3) L (.int v :: st)) : J p l e R s m args below meth c A nL Q (OV D Y A ad f0 f1 f5 f18 f19 f20 g2 g3 g4 g6 g7 g8 g9 g10 g11 g12 g13 g14 g15 g16 g17 g21 g22 g23 g24 g25) cells slots pc L (.ref (ad 0) :: st) := by subst hv; exact j_get (ws := wsR Y ad f0 f1 f5 f18 f19 f20 g2 g3 g4 g6 g7 g8 g9 g10 g11 g12 g13 g14 g15 g16 g17 g21 g22 g23 g24 g25) C0 in_X7 (ci := 10) rfl 0 (fs := fsR ad f0 f1 f5 f18 f19 f20) rfl 5 (by decide) wf_X7_75 rfl d kk
theorem r_pf_5 (C0 : CX p l s m args meth c RX7 cc nL ret D Y A E) {v : Int32} (d : decode cc pc = .ok (.putfield 75, 3)) (kk : J p l e R s m args below meth c A nL Q (OV D Y A ad f0 f1 v f18 f19 f20 g2 g3 g4 g6 g7 g8 g9 g10 g11 g12 g13 g14 g15 g16 g17 g21 g22 g23 g24 g25) cells slots (pc + 3) L st) : J p l e R s m args below meth c A nL Q (OV D Y A ad f0 f1 f5 f18 f19 f20 g2 g3 g4 g6 g7 g8 g9 g10 g11 g12 g13 g14 g15 g16 g17 g21 g22 g23 g24 g25) cells slots pc L (.int v :: .ref (ad 0) :: st) := j_put (ws := wsR Y ad f0 f1 f5 f18 f19 f20 g2 g3 g4 g6 g7 g8 g9 g10 g11 g12 g13 g14 g15 g16 g17 g21 g22 g23 g24 g25) C0 in_X7 tyX7 tyX7_ok nmX7 (ci := 10) rfl 0 (fs := fsR ad f0 f1 f5 f18 f19 f20) rfl 5 (by decide) wf_X7_75 rfl (t := .int) (by decide +kernel) rfl rfl (Nat.le_of_ble_eq_true rfl) d kk
theorem r_gf_6 (C0 : CX p l s m args meth c RX7 cc nL ret D Y A E) (d : decode cc pc = .ok (.getfield 19, 3)) (kk : J p l e R s m args below meth c A nL Q (OV D Y A ad f0 f1 f5 f18 f19 f20 g2 g3 g4 g6 g7 g8 g9 g10 g11 g12 g13 g14 g15 g16 g17 g21 g22 g23 g24 g25) cells slots (pc + 3) L (.ref (ad 6) :: st)) : J p l e R s m args below meth c A nL Q (OV D Y A ad f0 f1 f5 f18 f19 f20 g2 g3 g4 g6 g7 g8 g9 g10 g11 g12 g13 g14 g15 g16 g17 g21 g22 g23 g24 g25) cells slots pc L (.ref (ad 0) :: st) := j_get (ws := wsR Y ad f0 f1 f5 f18 f19 f20 g2 g3 g4 g6 g7 g8 g9 g10 g11 g12 g13 g14 g15 g16 g17 g21 g22 g23 g24 g25) C0 in_X7 (ci := 10) rfl 0 (fs := fsR ad f0 f1 f5 f18 f19 f20) rfl 6 (by decide) wf_X7_19 rfl d kk
theorem r_ld_6 (C0 : CX p l s m args meth c RX7 cc nL ret D Y A E) {i v : Int32} (hi : vp_in i 30) (d : decode cc pc = .ok (.iaload, 1)) (hv : g6 i.toNatClampNeg = v) (kk : J p l e R s m args below meth c A nL Q (OV D Y A ad f0 f1 f5 f18 f19 f20 g2 g3 g4 g6 g7 g8 g9 g10 g11 g12 g13 g14 g15 g16 g17 g21 g22 g23 g24 g25) cells slots (pc + 1) L (.int v :: st)) : J p l e R s m args below meth c A nL Q (OV D Y A ad f0 f1 f5 f18 f19 f20 g2 g3 g4 g6 g7 g8 g9 g10 g11 g12 g13 g14 g15 g16 g17 g21 g22 g23 g24 g25) cells slots pc L (.int i :: .ref (ad 6) :: st) := by subst hv; exact j_iald (ws := wsR Y ad f0 f1 f5 f18 f19 f20 g2 g3 g4 g6 g7 g8 g9 g10 g11 g12 g13 g14 g15 g16 g17 g21 g22 g23 g24 g25) C0 4 rfl hi d kk
theorem r_st_6 (C0 : CX p l s m args meth c RX7 cc nL ret D Y A E) {i x : Int32} (hi : vp_in i 30) (d : decode cc pc = .ok (.iastore, 1)) (kk : J p l e R s m args below meth c A nL Q (OV D Y A ad f0 f1 f5 f18 f19 f20 g2 g3 g4 (upd g6 i.toNatClampNeg (x)) g7 g8 g9 g10 g11 g12 g13 g14 g15 g16 g17 g21 g22 g23 g24 g25) cells slots (pc + 1) L st) : J p l e R s m args below meth c A nL Q (OV D Y A ad f0 f1 f5 f18 f19 f20 g2 g3 g4 g6 g7 g8 g9 g10 g11 g12 g13 g14 g15 g16 g17 g21 g22 g23 g24 g25) cells slots pc L (.int x :: .int i :: .ref (ad 6) :: st) := j_iast (ws := wsR Y ad f0 f1 f5 f18 f19 f20 g2 g3 g4 g6 g7 g8 g9 g10 g11 g12 g13 g14 g15 g16 g17 g21 g22 g23 g24 g25) C0 4 rfl hi d kk
theorem r_gf_7 (C0 : CX p l s m args meth c RX7 cc nL ret D Y A E) (d : decode cc pc = .ok (.getfield 22, 3)) (kk : J p l e R s m args below meth c A nL Q (OV D Y A ad f0 f1 f5 f18 f19 f20 g2 g3 g4 g6 g7 g8 g9 g10 g11 g12 g13 g14 g15 g16 g17 g21 g22 g23 g24 g25) cells slots (pc + 3) L (.ref (ad 7) :: st)) : J p l e R s m args below meth c A nL Q (OV D Y A ad f0 f1 f5 f18 f19 f20 g2 g3 g4 g6 g7 g8 g9 g10 g11 g12 g13 g14 g15 g16 g17 g21 g22 g23 g24 g25) cells slots pc L (.ref (ad 0) :: st) := j_get (ws := wsR Y ad f0 f1 f5 f18 f19 f20 g2 g3 g4 g6 g7 g8 g9 g10 g11 g12 g13 g14 g15 g16 g17 g21 g22 g23 g24 g25) C0 in_X7 (ci := 10) rfl 0 (fs := fsR ad f0 f1 f5 f18 f19 f20) rfl 7 (by decide) wf_X7_22 rfl d kk
theorem r_ld_7 (C0 : CX p l s m args meth c RX7 cc nL ret D Y A E) {i v : Int32} (hi : vp_in i 30) (d : decode cc pc = .ok (.iaload, 1)) (hv : g7 i.toNatClampNeg = v) (kk : J p l e R s m args below meth c A nL Q (OV D Y A ad f0 f1 f5 f18 f19 f20 g2 g3 g4 g6 g7 g8 g9 g10 g11 g12 g13 g14 g15 g16 g17 g21 g22 g23 g24 g25) cells slots (pc + 1) L (.int v :: st)) : J p l e R s m args below meth c A nL Q (OV D Y A ad f0 f1 f5 f18 f19 f20 g2 g3 g4 g6 g7 g8 g9 g10 g11 g12 g13 g14 g15 g16 g17 g21 g22 g23 g24 g25) cells slots pc L (.int i :: .ref (ad 7) :: st) := by subst hv; exact j_iald (ws := wsR Y ad f0 f1 f5 f18 f19 f20 g2 g3 g4 g6 g7 g8 g9 g10 g11 g12 g13 g14 g15 g16 g17 g21 g22 g23 g24 g25) C0 5 rfl hi d kk
theorem r_st_7 (C0 : CX p l s m args meth c RX7 cc nL ret D Y A E) {i x : Int32} (hi : vp_in i 30) (d : decode cc pc = .ok (.iastore, 1)) (kk : J p l e R s m args below meth c A nL Q (OV D Y A ad f0 f1 f5 f18 f19 f20 g2 g3 g4 g6 (upd g7 i.toNatClampNeg (x)) g8 g9 g10 g11 g12 g13 g14 g15 g16 g17 g21 g22 g23 g24 g25) cells slots (pc + 1) L st) : J p l e R s m args below meth c A nL Q (OV D Y A ad f0 f1 f5 f18 f19 f20 g2 g3 g4 g6 g7 g8 g9 g10 g11 g12 g13 g14 g15 g16 g17 g21 g22 g23 g24 g25) cells slots pc L (.int x :: .int i :: .ref (ad 7) :: st) := j_iast (ws := wsR Y ad f0 f1 f5 f18 f19 f20 g2 g3 g4 g6 g7 g8 g9 g10 g11 g12 g13 g14 g15 g16 g17 g21 g22 g23 g24 g25) C0 5 rfl hi d kk
theorem r_gf_8 (C0 : CX p l s m args meth c RX7 cc nL ret D Y A E) (d : decode cc pc = .ok (.getfield 25, 3)) (kk : J p l e R s m args below meth c A nL Q (OV D Y A ad f0 f1 f5 f18 f19 f20 g2 g3 g4 g6 g7 g8 g9 g10 g11 g12 g13 g14 g15 g16 g17 g21 g22 g23 g24 g25) cells slots (pc + 3) L (.ref (ad 8) :: st)) : J p l e R s m args below meth c A nL Q (OV D Y A ad f0 f1 f5 f18 f19 f20 g2 g3 g4 g6 g7 g8 g9 g10 g11 g12 g13 g14 g15 g16 g17 g21 g22 g23 g24 g25) cells slots pc L (.ref (ad 0) :: st) := j_get (ws := wsR Y ad f0 f1 f5 f18 f19 f20 g2 g3 g4 g6 g7 g8 g9 g10 g11 g12 g13 g14 g15 g16 g17 g21 g22 g23 g24 g25) C0 in_X7 (ci := 10) rfl 0 (fs := fsR ad f0 f1 f5 f18 f19 f20) rfl 8 (by decide) wf_X7_25 rfl d kk
theorem r_ld_8 (C0 : CX p l s m args meth c RX7 cc nL ret D Y A E) {i v : Int32} (hi : vp_in i 30) (d : decode cc pc = .ok (.iaload, 1)) (hv : g8 i.toNatClampNeg = v) (kk : J p l e R s m args below meth c A nL Q (OV D Y A ad f0 f1 f5 f18 f19 f20 g2 g3 g4 g6 g7 g8 g9 g10 g11 g12 g13 g14 g15 g16 g17 g21 g22 g23 g24 g25) cells slots (pc + 1) L (.int v :: st)) : J p l e R s m args below meth c A nL Q (OV D Y A ad f0 f1 f5 f18 f19 f20 g2 g3 g4 g6 g7 g8 g9 g10 g11 g12 g13 g14 g15 g16 g17 g21 g22 g23 g24 g25) cells slots pc L (.int i :: .ref (ad 8) :: st) := by subst hv; exact j_iald (ws := wsR Y ad f0 f1 f5 f18 f19 f20 g2 g3 g4 g6 g7 g8 g9 g10 g11 g12 g13 g14 g15 g16 g17 g21 g22 g23 g24 g25) C0 6 rfl hi d kk
theorem r_st_8 (C0 : CX p l s m args meth c RX7 cc nL ret D Y A E) {i x : Int32} (hi : vp_in i 30) (d : decode cc pc = .ok (.iastore, 1)) (kk : J p l e R s m args below meth c A nL Q (OV D Y A ad f0 f1 f5 f18 f19 f20 g2 g3 g4 g6 g7 (upd g8 i.toNatClampNeg (x)) g9 g10 g11 g12 g13 g14 g15 g16 g17 g21 g22 g23 g24 g25) cells slots (pc + 1) L st) : J p l e R s m args below meth c A nL Q (OV D Y A ad f0 f1 f5 f18 f19 f20 g2 g3 g4 g6 g7 g8 g9 g10 g11 g12 g13 g14 g15 g16 g17 g21 g22 g23 g24 g25) cells slots pc L (.int x :: .int i :: .ref (ad 8) :: st) := j_iast (ws := wsR Y ad f0 f1 f5 f18 f19 f20 g2 g3 g4 g6 g7 g8 g9 g10 g11 g12 g13 g14 g15 g16 g17 g21 g22 g23 g24 g25) C0 6 rfl hi d kk
theorem r_gf_9 (C0 : CX p l s m args meth c RX7 cc nL ret D Y A E) (d : decode cc pc = .ok (.getfield 28, 3)) (kk : J p l e R s m args below meth c A nL Q (OV D Y A ad f0 f1 f5 f18 f19 f20 g2 g3 g4 g6 g7 g8 g9 g10 g11 g12 g13 g14 g15 g16 g17 g21 g22 g23 g24 g25) cells slots (pc + 3) L (.ref (ad 9) :: st)) : J p l e R s m args below meth c A nL Q (OV D Y A ad f0 f1 f5 f18 f19 f20 g2 g3 g4 g6 g7 g8 g9 g10 g11 g12 g13 g14 g15 g16 g17 g21 g22 g23 g24 g25) cells slots pc L (.ref (ad 0) :: st) := j_get (ws := wsR Y ad f0 f1 f5 f18 f19 f20 g2 g3 g4 g6 g7 g8 g9 g10 g11 g12 g13 g14 g15 g16 g17 g21 g22 g23 g24 g25) C0 in_X7 (ci := 10) rfl 0 (fs := fsR ad f0 f1 f5 f18 f19 f20) rfl 9 (by decide) wf_X7_28 rfl d kk
theorem r_ld_9 (C0 : CX p l s m args meth c RX7 cc nL ret D Y A E) {i v : Int32} (hi : vp_in i 30) (d : decode cc pc = .ok (.iaload, 1)) (hv : g9 i.toNatClampNeg = v) (kk : J p l e R s m args below meth c A nL Q (OV D Y A ad f0 f1 f5 f18 f19 f20 g2 g3 g4 g6 g7 g8 g9 g10 g11 g12 g13 g14 g15 g16 g17 g21 g22 g23 g24 g25) cells slots (pc + 1) L (.int v :: st)) : J p l e R s m args below meth c A nL Q (OV D Y A ad f0 f1 f5 f18 f19 f20 g2 g3 g4 g6 g7 g8 g9 g10 g11 g12 g13 g14 g15 g16 g17 g21 g22 g23 g24 g25) cells slots pc L (.int i :: .ref (ad 9) :: st) := by subst hv; exact j_iald (ws := wsR Y ad f0 f1 f5 f18 f19 f20 g2 g3 g4 g6 g7 g8 g9 g10 g11 g12 g13 g14 g15 g16 g17 g21 g22 g23 g24 g25) C0 7 rfl hi d kk
theorem r_st_9 (C0 : CX p l s m args meth c RX7 cc nL ret D Y A E) {i x : Int32} (hi : vp_in i 30) (d : decode cc pc = .ok (.iastore, 1)) (kk : J p l e R s m args below meth c A nL Q (OV D Y A ad f0 f1 f5 f18 f19 f20 g2 g3 g4 g6 g7 g8 (upd g9 i.toNatClampNeg (x)) g10 g11 g12 g13 g14 g15 g16 g17 g21 g22 g23 g24 g25) cells slots (pc + 1) L st) : J p l e R s m args below meth c A nL Q (OV D Y A ad f0 f1 f5 f18 f19 f20 g2 g3 g4 g6 g7 g8 g9 g10 g11 g12 g13 g14 g15 g16 g17 g21 g22 g23 g24 g25) cells slots pc L (.int x :: .int i :: .ref (ad 9) :: st) := j_iast (ws := wsR Y ad f0 f1 f5 f18 f19 f20 g2 g3 g4 g6 g7 g8 g9 g10 g11 g12 g13 g14 g15 g16 g17 g21 g22 g23 g24 g25) C0 7 rfl hi d kk
theorem r_gf_10 (C0 : CX p l s m args meth c RX7 cc nL ret D Y A E) (d : decode cc pc = .ok (.getfield 31, 3)) (kk : J p l e R s m args below meth c A nL Q (OV D Y A ad f0 f1 f5 f18 f19 f20 g2 g3 g4 g6 g7 g8 g9 g10 g11 g12 g13 g14 g15 g16 g17 g21 g22 g23 g24 g25) cells slots (pc + 3) L (.ref (ad 10) :: st)) : J p l e R s m args below meth c A nL Q (OV D Y A ad f0 f1 f5 f18 f19 f20 g2 g3 g4 g6 g7 g8 g9 g10 g11 g12 g13 g14 g15 g16 g17 g21 g22 g23 g24 g25) cells slots pc L (.ref (ad 0) :: st) := j_get (ws := wsR Y ad f0 f1 f5 f18 f19 f20 g2 g3 g4 g6 g7 g8 g9 g10 g11 g12 g13 g14 g15 g16 g17 g21 g22 g23 g24 g25) C0 in_X7 (ci := 10) rfl 0 (fs := fsR ad f0 f1 f5 f18 f19 f20) rfl 10 (by decide) wf_X7_31 rfl d kk
theorem r_ld_10 (C0 : CX p l s m args meth c RX7 cc nL ret D Y A E) {i v : Int32} (hi : vp_in i 30) (d : decode cc pc = .ok (.iaload, 1)) (hv : g10 i.toNatClampNeg = v) (kk : J p l e R s m args below meth c A nL Q (OV D Y A ad f0 f1 f5 f18 f19 f20 g2 g3 g4 g6 g7 g8 g9 g10 g11 g12 g13 g14 g15 g16 g17 g21 g22 g23 g24 g25) cells slots (pc + 1) L (.int v :: st)) : J p l e R s m args below meth c A nL Q (OV D Y A ad f0 f1 f5 f18 f19 f20 g2 g3 g4 g6 g7 g8 g9 g10 g11 g12 g13 g14 g15 g16 g17 g21 g22 g23 g24 g25) cells slots pc L (.int i :: .ref (ad 10) :: st) := by subst hv; exact j_iald (ws := wsR Y ad f0 f1 f5 f18 f19 f20 g2 g3 g4 g6 g7 g8 g9 g10 g11 g12 g13 g14 g15 g16 g17 g21 g22 g23 g24 g25) C0 8 rfl hi d kk
theorem r_st_10 (C0 : CX p l s m args meth c RX7 cc nL ret D Y A E) {i x : Int32} (hi : vp_in i 30) (d : decode cc pc = .ok (.iastore, 1)) (kk : J p l e R s m args below meth c A nL Q (OV D Y A ad f0 f1 f5 f18 f19 f20 g2 g3 g4 g6 g7 g8 g9 (upd g10 i.toNatClampNeg (x)) g11 g12 g13 g14 g15 g16 g17 g21 g22 g23 g24 g25) cells slots (pc + 1) L st) : J p l e R s m args below meth c A nL Q (OV D Y A ad f0 f1 f5 f18 f19 f20 g2 g3 g4 g6 g7 g8 g9 g10 g11 g12 g13 g14 g15 g16 g17 g21 g22 g23 g24 g25) cells slots pc L (.int x :: .int i :: .ref (ad 10) :: st) := j_iast (ws := wsR Y ad f0 f1 f5 f18 f19 f20 g2 g3 g4 g6 g7 g8 g9 g10 g11 g12 g13 g14 g15 g16 g17 g21 g22 g23 g24 g25) C0 8 rfl hi d kk
theorem r_gf_11 (C0 : CX p l s m args meth c RX7 cc nL ret D Y A E) (d : decode cc pc = .ok (.getfield 34, 3)) (kk : J p l e R s m args below meth c A nL Q (OV D Y A ad f0 f1 f5 f18 f19 f20 g2 g3 g4 g6 g7 g8 g9 g10 g11 g12 g13 g14 g15 g16 g17 g21 g22 g23 g24 g25) cells slots (pc + 3) L (.ref (ad 11) :: st)) : J p l e R s m args below meth c A nL Q (OV D Y A ad f0 f1 f5 f18 f19 f20 g2 g3 g4 g6 g7 g8 g9 g10 g11 g12 g13 g14 g15 g16 g17 g21 g22 g23 g24 g25) cells slots pc L (.ref (ad 0) :: st) := j_get (ws := wsR Y ad f0 f1 f5 f18 f19 f20 g2 g3 g4 g6 g7 g8 g9 g10 g11 g12 g13 g14 g15 g16 g17 g21 g22 g23 g24 g25) C0 in_X7 (ci := 10) rfl 0 (fs := fsR ad f0 f1 f5 f18 f19 f20) rfl 11 (by decide) wf_X7_34 rfl d kk
theorem r_ld_11 (C0 : CX p l s m args meth c RX7 cc nL ret D Y A E) {i v : Int32} (hi : vp_in i 30) (d : decode cc pc = .ok (.iaload, 1)) (hv : g11 i.toNatClampNeg = v) (kk : J p l e R s m args below meth c A nL Q (OV D Y A ad f0 f1 f5 f18 f19 f20 g2 g3 g4 g6 g7 g8 g9 g10 g11 g12 g13 g14 g15 g16 g17 g21 g22 g23 g24 g25) cells slots (pc + 1) L (.int v :: st)) : J p l e R s m args below meth c A nL Q (OV D Y A ad f0 f1 f5 f18 f19 f20 g2 g3 g4 g6 g7 g8 g9 g10 g11 g12 g13 g14 g15 g16 g17 g21 g22 g23 g24 g25) cells slots pc L (.int i :: .ref (ad 11) :: st) := by subst hv; exact j_iald (ws := wsR Y ad f0 f1 f5 f18 f19 f20 g2 g3 g4 g6 g7 g8 g9 g10 g11 g12 g13 g14 g15 g16 g17 g21 g22 g23 g24 g25) C0 9 rfl hi d kk
theorem r_st_11 (C0 : CX p l s m args meth c RX7 cc nL ret D Y A E) {i x : Int32} (hi : vp_in i 30) (d : decode cc pc = .ok (.iastore, 1)) (kk : J p l e R s m args below meth c A nL Q (OV D Y A ad f0 f1 f5 f18 f19 f20 g2 g3 g4 g6 g7 g8 g9 g10 (upd g11 i.toNatClampNeg (x)) g12 g13 g14 g15 g16 g17 g21 g22 g23 g24 g25) cells slots (pc + 1) L st) : J p l e R s m args below meth c A nL Q (OV D Y A ad f0 f1 f5 f18 f19 f20 g2 g3 g4 g6 g7 g8 g9 g10 g11 g12 g13 g14 g15 g16 g17 g21 g22 g23 g24 g25) cells slots pc L (.int x :: .int i :: .ref (ad 11) :: st) := j_iast (ws := wsR Y ad f0 f1 f5 f18 f19 f20 g2 g3 g4 g6 g7 g8 g9 g10 g11 g12 g13 g14 g15 g16 g17 g21 g22 g23 g24 g25) C0 9 rfl hi d kk
theorem r_gf_12 (C0 : CX p l s m args meth c RX7 cc nL ret D Y A E) (d : decode cc pc = .ok (.getfield 37, 3)) (kk : J p l e R s m args below meth c A nL Q (OV D Y A ad f0 f1 f5 f18 f19 f20 g2 g3 g4 g6 g7 g8 g9 g10 g11 g12 g13 g14 g15 g16 g17 g21 g22 g23 g24 g25) cells slots (pc + 3) L (.ref (ad 12) :: st)) : J p l e R s m args below meth c A nL Q (OV D Y A ad f0 f1 f5 f18 f19 f20 g2 g3 g4 g6 g7 g8 g9 g10 g11 g12 g13 g14 g15 g16 g17 g21 g22 g23 g24 g25) cells slots pc L (.ref (ad 0) :: st) := j_get (ws := wsR Y ad f0 f1 f5 f18 f19 f20 g2 g3 g4 g6 g7 g8 g9 g10 g11 g12 g13 g14 g15 g16 g17 g21 g22 g23 g24 g25) C0 in_X7 (ci := 10) rfl 0 (fs := fsR ad f0 f1 f5 f18 f19 f20) rfl 12 (by decide) wf_X7_37 rfl d kk
theorem r_ld_12 (C0 : CX p l s m args meth c RX7 cc nL ret D Y A E) {i v : Int32} (hi : vp_in i 30) (d : decode cc pc = .ok (.iaload, 1)) (hv : g12 i.toNatClampNeg = v) (kk : J p l e R s m args below meth c A nL Q (OV D Y A ad f0 f1 f5 f18 f19 f20 g2 g3 g4 g6 g7 g8 g9 g10 g11 g12 g13 g14 g15 g16 g17 g21 g22 g23 g24 g25) cells slots (pc + 1) L (.int v :: st)) : J p l e R s m args below meth c A nL Q (OV D Y A ad f0 f1 f5 f18 f19 f20 g2 g3 g4 g6 g7 g8 g9 g10 g11 g12 g13 g14 g15 g16 g17 g21 g22 g23 g24 g25) cells slots pc L (.int i :: .ref (ad 12) :: st) := by subst hv; exact j_iald (ws := wsR Y ad f0 f1 f5 f18 f19 f20 g2 g3 g4 g6 g7 g8 g9 g10 g11 g12 g13 g14 g15 g16 g17 g21 g22 g23 g24 g25) C0 10 rfl hi d kk
theorem r_st_12 (C0 : CX p l s m args meth c RX7 cc nL ret D Y A E) {i x : Int32} (hi : vp_in i 30) (d : decode cc pc = .ok (.iastore, 1)) (kk : J p l e R s m args below meth c A nL Q (OV D Y A ad f0 f1 f5 f18 f19 f20 g2 g3 g4 g6 g7 g8 g9 g10 g11 (upd g12 i.toNatClampNeg (x)) g13 g14 g15 g16 g17 g21 g22 g23 g24 g25) cells slots (pc + 1) L st) : J p l e R s m args below meth c A nL Q (OV D Y A ad f0 f1 f5 f18 f19 f20 g2 g3 g4 g6 g7 g8 g9 g10 g11 g12 g13 g14 g15 g16 g17 g21 g22 g23 g24 g25) cells slots pc L (.int x :: .int i :: .ref (ad 12) :: st) := j_iast (ws := wsR Y ad f0 f1 f5 f18 f19 f20 g2 g3 g4 g6 g7 g8 g9 g10 g11 g12 g13 g14 g15 g16 g17 g21 g22 g23 g24 g25) C0 10 rfl hi d kk
theorem r_gf_13 (C0 : CX p l s m args meth c RX7 cc nL ret D Y A E) (d : decode cc pc = .ok (.getfield 40, 3)) (kk : J p l e R s m args below meth c A nL Q (OV D Y A ad f0 f1 f5 f18 f19 f20 g2 g3 g4 g6 g7 g8 g9 g10 g11 g12 g13 g14 g15 g16 g17 g21 g22 g23 g24 g25) cells slots (pc + 3) L (.ref (ad 13) :: st)) : J p l e R s m args below meth c A nL Q (OV D Y A ad f0 f1 f5 f18 f19 f20 g2 g3 g4 g6 g7 g8 g9 g10 g11 g12 g13 g14 g15 g16 g17 g21 g22 g23 g24 g25) cells slots pc L (.ref (ad 0) :: st) := j_get (ws := wsR Y ad f0 f1 f5 f18 f19 f20 g2 g3 g4 g6 g7 g8 g9 g10 g11 g12 g13 g14 g15 g16 g17 g21 g22 g23 g24 g25) C0 in_X7 (ci := 10) rfl 0 (fs := fsR ad f0 f1 f5 f18 f19 f20) rfl 13 (by decide) wf_X7_40 rfl d kk
theorem r_ld_13 (C0 : CX p l s m args meth c RX7 cc nL ret D Y A E) {i v : Int32} (hi : vp_in i 30) (d : decode cc pc = .ok (.iaload, 1)) (hv : g13 i.toNatClampNeg = v) (kk : J p l e R s m args below meth c A nL Q (OV D Y A ad f0 f1 f5 f18 f19 f20 g2 g3 g4 g6 g7 g8 g9 g10 g11 g12 g13 g14 g15 g16 g17 g21 g22 g23 g24 g25) cells slots (pc + 1) L (.int v :: st)) : J p l e R s m args below meth c A nL Q (OV D Y A ad f0 f1 f5 f18 f19 f20 g2 g3 g4 g6 g7 g8 g9 g10 g11 g12 g13 g14 g15 g16 g17 g21 g22 g23 g24 g25) cells slots pc L (.int i :: .ref (ad 13) :: st) := by subst hv; exact j_iald (ws := wsR Y ad f0 f1 f5 f18 f19 f20 g2 g3 g4 g6 g7 g8 g9 g10 g11 g12 g13 g14 g15 g16 g17 g21 g22 g23 g24 g25) C0 11 rfl hi d kk
theorem r_st_13 (C0 : CX p l s m args meth c RX7 cc nL ret D Y A E) {i x : Int32} (hi : vp_in i 30) (d : decode cc pc = .ok (.iastore, 1)) (kk : J p l e R s m args below meth c A nL Q (OV D Y A ad f0 f1 f5 f18 f19 f20 g2 g3 g4 g6 g7 g8 g9 g10 g11 g12 (upd g13 i.toNatClampNeg (x)) g14 g15 g16 g17 g21 g22 g23 g24 g25) cells slots (pc + 1) L st) : J p l e R s m args below meth c A nL Q (OV D Y A ad f0 f1 f5 f18 f19 f20 g2 g3 g4 g6 g7 g8 g9 g10 g11 g12 g13 g14 g15 g16 g17 g21 g22 g23 g24 g25) cells slots pc L (.int x :: .int i :: .ref (ad 13) :: st) := j_iast (ws := wsR Y ad f0 f1 f5 f18 f19 f20 g2 g3 g4 g6 g7 g8 g9 g10 g11 g12 g13 g14 g15 g16 g17 g21 g22 g23 g24 g25) C0 11 rfl hi d kk
theorem r_gf_14 (C0 : CX p l s m args meth c RX7 cc nL ret D Y A E) (d : decode cc pc = .ok (.getfield 43, 3)) (kk : J p l e R s m args below meth c A nL Q (OV D Y A ad f0 f1 f5 f18 f19 f20 g2 g3 g4 g6 g7 g8 g9 g10 g11 g12 g13 g14 g15 g16 g17 g21 g22 g23 g24 g25) cells slots (pc + 3) L (.ref (ad 14) :: st)) : J p l e R s m args below meth c A nL Q (OV D Y A ad f0 f1 f5 f18 f19 f20 g2 g3 g4 g6 g7 g8 g9 g10 g11 g12 g13 g14 g15 g16 g17 g21 g22 g23 g24 g25) cells slots pc L (.ref (ad 0) :: st) := j_get (ws := wsR Y ad f0 f1 f5 f18 f19 f20 g2 g3 g4 g6 g7 g8 g9 g10 g11 g12 g13 g14 g15 g16 g17 g21 g22 g23 g24 g25) C0 in_X7 (ci := 10) rfl 0 (fs := fsR ad f0 f1 f5 f18 f19 f20) rfl 14 (by decide) wf_X7_43 rfl d kk
theorem r_ld_14 (C0 : CX p l s m args meth c RX7 cc nL ret D Y A E) {i v : Int32} (hi : vp_in i 30) (d : decode cc pc = .ok (.iaload, 1)) (hv : g14 i.toNatClampNeg = v) (kk : J p l e R s m args below meth c A nL Q (OV D Y A ad f0 f1 f5 f18 f19 f20 g2 g3 g4 g6 g7 g8 g9 g10 g11 g12 g13 g14 g15 g16 g17 g21 g22 g23 g24 g25) cells slots (pc + 1) L (.int v :: st)) : J p l e R s m args below meth c A nL Q (OV D Y A ad f0 f1 f5 f18 f19 f20 g2 g3 g4 g6 g7 g8 g9 g10 g11 g12 g13 g14 g15 g16 g17 g21 g22 g23 g24 g25) cells slots pc L (.int i :: .ref (ad 14) :: st) := by subst hv; exact j_iald (ws := wsR Y ad f0 f1 f5 f18 f19 f20 g2 g3 g4 g6 g7 g8 g9 g10 g11 g12 g13 g14 g15 g16 g17 g21 g22 g23 g24 g25) C0 12 rfl hi d kk
theorem r_st_14 (C0 : CX p l s m args meth c RX7 cc nL ret D Y A E) {i x : Int32} (hi : vp_in i 30) (d : decode cc pc = .ok (.iastore, 1)) (kk : J p l e R s m args below meth c A nL Q (OV D Y A ad f0 f1 f5 f18 f19 f20 g2 g3 g4 g6 g7 g8 g9 g10 g11 g12 g13 (upd g14 i.toNatClampNeg (x)) g15 g16 g17 g21 g22 g23 g24 g25) cells slots (pc + 1) L st) : J p l e R s m args below meth c A nL Q (OV D Y A ad f0 f1 f5 f18 f19 f20 g2 g3 g4 g6 g7 g8 g9 g10 g11 g12 g13 g14 g15 g16 g17 g21 g22 g23 g24 g25) cells slots pc L (.int x :: .int i :: .ref (ad 14) :: st) := j_iast (ws := wsR Y ad f0 f1 f5 f18 f19 f20 g2 g3 g4 g6 g7 g8 g9 g10 g11 g12 g13 g14 g15 g16 g17 g21 g22 g23 g24 g25) C0 12 rfl hi d kk
theorem r_gf_15 (C0 : CX p l s m args meth c RX7 cc nL ret D Y A E) (d : decode cc pc = .ok (.getfield 46, 3)) (kk : J p l e R s m args below meth c A nL Q (OV D Y A ad f0 f1 f5 f18 f19 f20 g2 g3 g4 g6 g7 g8 g9 g10 g11 g12 g13 g14 g15 g16 g17 g21 g22 g23 g24 g25) cells slots (pc + 3) L (.ref (ad 15) :: st)) : J p l e R s m args below meth c A nL Q (OV D Y A ad f0 f1 f5 f18 f19 f20 g2 g3 g4 g6 g7 g8 g9 g10 g11 g12 g13 g14 g15 g16 g17 g21 g22 g23 g24 g25) cells slots pc L (.ref (ad 0) :: st) := j_get (ws := wsR Y ad f0 f1 f5 f18 f19 f20 g2 g3 g4 g6 g7 g8 g9 g10 g11 g12 g13 g14 g15 g16 g17 g21 g22 g23 g24 g25) C0 in_X7 (ci := 10) rfl 0 (fs := fsR ad f0 f1 f5 f18 f19 f20) rfl 15 (by decide) wf_X7_46 rfl d kk
theorem r_ld_15 (C0 : CX p l s m args meth c RX7 cc nL ret D Y A E) {i v : Int32} (hi : vp_in i 30) (d : decode cc pc = .ok (.iaload, 1)) (hv : g15 i.toNatClampNeg = v) (kk : J p l e R s m args below meth c A nL Q (OV D Y A ad f0 f1 f5 f18 f19 f20 g2 g3 g4 g6 g7 g8 g9 g10 g11 g12 g13 g14 g15 g16 g17 g21 g22 g23 g24 g25) cells slots (pc + 1) L (.int v :: st)) : J p l e R s m args below meth c A nL Q (OV D Y A ad f0 f1 f5 f18 f19 f20 g2 g3 g4 g6 g7 g8 g9 g10 g11 g12 g13 g14 g15 g16 g17 g21 g22 g23 g24 g25) cells slots pc L (.int i :: .ref (ad 15) :: st) := by subst hv; exact j_iald (ws := wsR Y ad f0 f1 f5 f18 f19 f20 g2 g3 g4 g6 g7 g8 g9 g10 g11 g12 g13 g14 g15 g16 g17 g21 g22 g23 g24 g25) C0 13 rfl hi d kk
theorem r_st_15 (C0 : CX p l s m args meth c RX7 cc nL ret D Y A E) {i x : Int32} (hi : vp_in i 30) (d : decode cc pc = .ok (.iastore, 1)) (kk : J p l e R s m args below meth c A nL Q (OV D Y A ad f0 f1 f5 f18 f19 f20 g2 g3 g4 g6 g7 g8 g9 g10 g11 g12 g13 g14 (upd g15 i.toNatClampNeg (x)) g16 g17 g21 g22 g23 g24 g25) cells slots (pc + 1) L st) : J p l e R s m args below meth c A nL Q (OV D Y A ad f0 f1 f5 f18 f19 f20 g2 g3 g4 g6 g7 g8 g9 g10 g11 g12 g13 g14 g15 g16 g17 g21 g22 g23 g24 g25) cells slots pc L (.int x :: .int i :: .ref (ad 15) :: st) := j_iast (ws := wsR Y ad f0 f1 f5 f18 f19 f20 g2 g3 g4 g6 g7 g8 g9 g10 g11 g12 g13 g14 g15 g16 g17 g21 g22 g23 g24 g25) C0 13 rfl hi d kk
theorem r_gf_16 (C0 : CX p l s m args meth c RX7 cc nL ret D Y A E) (d : decode cc pc = .ok (.getfield 49, 3)) (kk : J p l e R s m args below meth c A nL Q (OV D Y A ad f0 f1 f5 f18 f19 f20 g2 g3 g4 g6 g7 g8 g9 g10 g11 g12 g13 g14 g15 g16 g17 g21 g22 g23 g24 g25) cells slots (pc + 3) L (.ref (ad 16) :: st)) : J p l e R s m args below meth c A nL Q (OV D Y A ad f0 f1 f5 f18 f19 f20 g2 g3 g4 g6 g7 g8 g9 g10 g11 g12 g13 g14 g15 g16 g17 g21 g22 g23 g24 g25) cells slots pc L (.ref (ad 0) :: st) := j_get (ws := wsR Y ad f0 f1 f5 f18 f19 f20 g2 g3 g4 g6 g7 g8 g9 g10 g11 g12 g13 g14 g15 g16 g17 g21 g22 g23 g24 g25) C0 in_X7 (ci := 10) rfl 0 (fs := fsR ad f0 f1 f5 f18 f19 f20) rfl 16 (by decide) wf_X7_49 rfl d kk
theorem r_ld_16 (C0 : CX p l s m args meth c RX7 cc nL ret D Y A E) {i v : Int32} (hi : vp_in i 6) (d : decode cc pc = .ok (.iaload, 1)) (hv : g16 i.toNatClampNeg = v) (kk : J p l e R s m args below meth c A nL Q (OV D Y A ad f0 f1 f5 f18 f19 f20 g2 g3 g4 g6 g7 g8 g9 g10 g11 g12 g13 g14 g15 g16 g17 g21 g22 g23 g24 g25) cells slots (pc + 1) L (.int v :: st)) : J p l e R s m args below meth c A nL Q (OV D Y A ad f0 f1 f5 f18 f19 f20 g2 g3 g4 g6 g7 g8 g9 g10 g11 g12 g13 g14 g15 g16 g17 g21 g22 g23 g24 g25) cells slots pc L (.int i :: .ref (ad 16) :: st) := by subst hv; exact j_iald (ws := wsR Y ad f0 f1 f5 f18 f19 f20 g2 g3 g4 g6 g7 g8 g9 g10 g11 g12 g13 g14 g15 g16 g17 g21 g22 g23 g24 g25) C0 14 rfl hi d kk
theorem r_st_16 (C0 : CX p l s m args meth c RX7 cc nL ret D Y A E) {i x : Int32} (hi : vp_in i 6) (d : decode cc pc = .ok (.iastore, 1)) (kk : J p l e R s m args below meth c A nL Q (OV D Y A ad f0 f1 f5 f18 f19 f20 g2 g3 g4 g6 g7 g8 g9 g10 g11 g12 g13 g14 g15 (upd g16 i.toNatClampNeg (x)) g17 g21 g22 g23 g24 g25) cells slots (pc + 1) L st) : J p l e R s m args below meth c A nL Q (OV D Y A ad f0 f1 f5 f18 f19 f20 g2 g3 g4 g6 g7 g8 g9 g10 g11 g12 g13 g14 g15 g16 g17 g21 g22 g23 g24 g25) cells slots pc L (.int x :: .int i :: .ref (ad 16) :: st) := j_iast (ws := wsR Y ad f0 f1 f5 f18 f19 f20 g2 g3 g4 g6 g7 g8 g9 g10 g11 g12 g13 g14 g15 g16 g17 g21 g22 g23 g24 g25) C0 14 rfl hi d kk
theorem r_gf_17 (C0 : CX p l s m args meth c RX7 cc nL ret D Y A E) (d : decode cc pc = .ok (.getfield 52, 3)) (kk : J p l e R s m args below meth c A nL Q (OV D Y A ad f0 f1 f5 f18 f19 f20 g2 g3 g4 g6 g7 g8 g9 g10 g11 g12 g13 g14 g15 g16 g17 g21 g22 g23 g24 g25) cells slots (pc + 3) L (.ref (ad 17) :: st)) : J p l e R s m args below meth c A nL Q (OV D Y A ad f0 f1 f5 f18 f19 f20 g2 g3 g4 g6 g7 g8 g9 g10 g11 g12 g13 g14 g15 g16 g17 g21 g22 g23 g24 g25) cells slots pc L (.ref (ad 0) :: st) := j_get (ws := wsR Y ad f0 f1 f5 f18 f19 f20 g2 g3 g4 g6 g7 g8 g9 g10 g11 g12 g13 g14 g15 g16 g17 g21 g22 g23 g24 g25) C0 in_X7 (ci := 10) rfl 0 (fs := fsR ad f0 f1 f5 f18 f19 f20) rfl 17 (by decide) wf_X7_52 rfl d kk
theorem r_ld_17 (C0 : CX p l s m args meth c RX7 cc nL ret D Y A E) {i v : Int32} (hi : vp_in i 6) (d : decode cc pc = .ok (.iaload, 1)) (hv : g17 i.toNatClampNeg = v) (kk : J p l e R s m args below meth c A nL Q (OV D Y A ad f0 f1 f5 f18 f19 f20 g2 g3 g4 g6 g7 g8 g9 g10 g11 g12 g13 g14 g15 g16 g17 g21 g22 g23 g24 g25) cells slots (pc + 1) L (.int v :: st)) : J p l e R s m args below meth c A nL Q (OV D Y A ad f0 f1 f5 f18 f19 f20 g2 g3 g4 g6 g7 g8 g9 g10 g11 g12 g13 g14 g15 g16 g17 g21 g22 g23 g24 g25) cells slots pc L (.int i :: .ref (ad 17) :: st) := by subst hv; exact j_iald (ws := wsR Y ad f0 f1 f5 f18 f19 f20 g2 g3 g4 g6 g7 g8 g9 g10 g11 g12 g13 g14 g15 g16 g17 g21 g22 g23 g24 g25) C0 15 rfl hi d kk
theorem r_st_17 (C0 : CX p l s m args meth c RX7 cc nL ret D Y A E) {i x : Int32} (hi : vp_in i 6) (d : decode cc pc = .ok (.iastore, 1)) (kk : J p l e R s m args below meth c A nL Q (OV D Y A ad f0 f1 f5 f18 f19 f20 g2 g3 g4 g6 g7 g8 g9 g10 g11 g12 g13 g14 g15 g16 (upd g17 i.toNatClampNeg (x)) g21 g22 g23 g24 g25) cells slots (pc + 1) L st) : J p l e R s m args below meth c A nL Q (OV D Y A ad f0 f1 f5 f18 f19 f20 g2 g3 g4 g6 g7 g8 g9 g10 g11 g12 g13 g14 g15 g16 g17 g21 g22 g23 g24 g25) cells slots pc L (.int x :: .int i :: .ref (ad 17) :: st) := j_iast (ws := wsR Y ad f0 f1 f5 f18 f19 f20 g2 g3 g4 g6 g7 g8 g9 g10 g11 g12 g13 g14 g15 g16 g17 g21 g22 g23 g24 g25) C0 15 rfl hi d kk
theorem r_gf_18 (C0 : CX p l s m args meth c RX7 cc nL ret D Y A E) {v : Int32} (d : decode cc pc = .ok (.getfield 136, 3)) (hv : f18 = v) (kk : J p l e R s m args below meth c A nL Q (OV D Y A ad f0 f1 f5 f18 f19 f20 g2 g3 g4 g6 g7 g8 g9 g10 g11 g12 g13 g14 g15 g16 g17 g21 g22 g23 g24 g25) cells slots (pc + 3) L (.int v :: st)) : J p l e R s m args below meth c A nL Q (OV D Y A ad f0 f1 f5 f18 f19 f20 g2 g3 g4 g6 g7 g8 g9 g10 g11 g12 g13 g14 g15 g16 g17 g21 g22 g23 g24 g25) cells slots pc L (.ref (ad 0) :: st) := by subst hv; exact j_get (ws := wsR Y ad f0 f1 f5 f18 f19 f20 g2 g3 g4 g6 g7 g8 g9 g10 g11 g12 g13 g14 g15 g16 g17 g21 g22 g23 g24 g25) C0 in_X7 (ci := 10) rfl 0 (fs := fsR ad f0 f1 f5 f18 f19 f20) rfl 18 (by decide) wf_X7_136 rfl d kk
theorem r_pf_18 (C0 : CX p l s m args meth c RX7 cc nL ret D Y A E) {v : Int32} (d : decode cc pc = .ok (.putfield 136, 3)) (kk : J p l e R s m args below meth c A nL Q (OV D Y A ad f0 f1 f5 v f19 f20 g2 g3 g4 g6 g7 g8 g9 g10 g11 g12 g13 g14 g15 g16 g17 g21 g22 g23 g24 g25) cells slots (pc + 3) L st) : J p l e R s m args below meth c A nL Q (OV D Y A ad f0 f1 f5 f18 f19 f20 g2 g3 g4 g6 g7 g8 g9 g10 g11 g12 g13 g14 g15 g16 g17 g21 g22 g23 g24 g25) cells slots pc L (.int v :: .ref (ad 0) :: st) := j_put (ws := wsR Y ad f0 f1 f5 f18 f19 f20 g2 g3 g4 g6 g7 g8 g9 g10 g11 g12 g13 g14 g15 g16 g17 g21 g22 g23 g24 g25) C0 in_X7 tyX7 tyX7_ok nmX7 (ci := 10) rfl 0 (fs := fsR ad f0 f1 f5 f18 f19 f20) rfl 18 (by decide) wf_X7_136 rfl (t := .int) (by decide +kernel) rfl rfl (Nat.le_of_ble_eq_true rfl) d kk
theorem r_gf_19 (C0 : CX p l s m args meth c RX7 cc nL ret D Y A E) {v : Int32} (d : decode cc pc = .ok (.getfield 139, 3)) (hv : f19 = v) (kk : J p l e R s m args below meth c A nL Q (OV D Y A ad f0 f1 f5 f18 f19 f20 g2 g3 g4 g6 g7 g8 g9 g10 g11 g12 g13 g14 g15 g16 g17 g21 g22 g23 g24 g25) cells slots (pc + 3) L (.int v :: st)) : J p l e R s m args below meth c A nL Q (OV D Y A ad f0 f1 f5 f18 f19 f20 g2 g3 g4 g6 g7 g8 g9 g10 g11 g12 g13 g14 g15 g16 g17 g21 g22 g23 g24 g25) cells slots pc L (.ref (ad 0) :: st) := by subst hv; exact j_get (ws := wsR Y ad f0 f1 f5 f18 f19 f20 g2 g3 g4 g6 g7 g8 g9 g10 g11 g12 g13 g14 g15 g16 g17 g21 g22 g23 g24 g25) C0 in_X7 (ci := 10) rfl 0 (fs := fsR ad f0 f1 f5 f18 f19 f20) rfl 19 (by decide) wf_X7_139 rfl d kk
theorem r_pf_19 (C0 : CX p l s m args meth c RX7 cc nL ret D Y A E) {v : Int32} (d : decode cc pc = .ok (.putfield 139, 3)) (kk : J p l e R s m args below meth c A nL Q (OV D Y A ad f0 f1 f5 f18 v f20 g2 g3 g4 g6 g7 g8 g9 g10 g11 g12 g13 g14 g15 g16 g17 g21 g22 g23 g24 g25) cells slots (pc + 3) L st) : J p l e R s m args below meth c A nL Q (OV D Y A ad f0 f1 f5 f18 f19 f20 g2 g3 g4 g6 g7 g8 g9 g10 g11 g12 g13 g14 g15 g16 g17 g21 g22 g23 g24 g25) cells slots pc L (.int v :: .ref (ad 0) :: st) := j_put (ws := wsR Y ad f0 f1 f5 f18 f19 f20 g2 g3 g4 g6 g7 g8 g9 g10 g11 g12 g13 g14 g15 g16 g17 g21 g22 g23 g24 g25) C0 in_X7 tyX7 tyX7_ok nmX7 (ci := 10) rfl 0 (fs := fsR ad f0 f1 f5 f18 f19 f20) rfl 19 (by decide) wf_X7_139 rfl (t := .int) (by decide +kernel) rfl rfl (Nat.le_of_ble_eq_true rfl) d kk
theorem r_gf_20 (C0 : CX p l s m args meth c RX7 cc nL ret D Y A E) {v : Int32} (d : decode cc pc = .ok (.getfield 82, 3)) (hv : f20 = v) (kk : J p l e R s m args below meth c A nL Q (OV D Y A ad f0 f1 f5 f18 f19 f20 g2 g3 g4 g6 g7 g8 g9 g10 g11 g12 g13 g14 g15 g16 g17 g21 g22 g23 g24 g25) cells slots (pc + 3) L (.int v :: st)) : J p l e R s m args below meth c A nL Q (OV D Y A ad f0 f1 f5 f18 f19 f20 g2 g3 g4 g6 g7 g8 g9 g10 g11 g12 g13 g14 g15 g16 g17 g21 g22 g23 g24 g25) cells slots pc L (.ref (ad 0) :: st) := by subst hv; exact j_get (ws := wsR Y ad f0 f1 f5 f18 f19 f20 g2 g3 g4 g6 g7 g8 g9 g10 g11 g12 g13 g14 g15 g16 g17 g21 g22 g23 g24 g25) C0 in_X7 (ci := 10) rfl 0 (fs := fsR ad f0 f1 f5 f18 f19 f20) rfl 20 (by decide) wf_X7_82 rfl d kk
theorem r_pf_20 (C0 : CX p l s m args meth c RX7 cc nL ret D Y A E) {v : Int32} (d : decode cc pc = .ok (.putfield 82, 3)) (kk : J p l e R s m args below meth c A nL Q (OV D Y A ad f0 f1 f5 f18 f19 v g2 g3 g4 g6 g7 g8 g9 g10 g11 g12 g13 g14 g15 g16 g17 g21 g22 g23 g24 g25) cells slots (pc + 3) L st) : J p l e R s m args below meth c A nL Q (OV D Y A ad f0 f1 f5 f18 f19 f20 g2 g3 g4 g6 g7 g8 g9 g10 g11 g12 g13 g14 g15 g16 g17 g21 g22 g23 g24 g25) cells slots pc L (.int v :: .ref (ad 0) :: st) := j_put (ws := wsR Y ad f0 f1 f5 f18 f19 f20 g2 g3 g4 g6 g7 g8 g9 g10 g11 g12 g13 g14 g15 g16 g17 g21 g22 g23 g24 g25) C0 in_X7 tyX7 tyX7_ok nmX7 (ci := 10) rfl 0 (fs := fsR ad f0 f1 f5 f18 f19 f20) rfl 20 (by decide) wf_X7_82 rfl (t := .int) (by decide +kernel) rfl rfl (Nat.le_of_ble_eq_true rfl) d kk
theorem r_gf_21 (C0 : CX p l s m args meth c RX7 cc nL ret D Y A E) (d : decode cc pc = .ok (.getfield 55, 3)) (kk : J p l e R s m args below meth c A nL Q (OV D Y A ad f0 f1 f5 f18 f19 f20 g2 g3 g4 g6 g7 g8 g9 g10 g11 g12 g13 g14 g15 g16 g17 g21 g22 g23 g24 g25) cells slots (pc + 3) L (.ref (ad 21) :: st)) : J p l e R s m args below meth c A nL Q (OV D Y A ad f0 f1 f5 f18 f19 f20 g2 g3 g4 g6 g7 g8 g9 g10 g11 g12 g13 g14 g15 g16 g17 g21 g22 g23 g24 g25) cells slots pc L (.ref (ad 0) :: st) := j_get (ws := wsR Y ad f0 f1 f5 f18 f19 f20 g2 g3 g4 g6 g7 g8 g9 g10 g11 g12 g13 g14 g15 g16 g17 g21 g22 g23 g24 g25) C0 in_X7 (ci := 10) rfl 0 (fs := fsR ad f0 f1 f5 f18 f19 f20) rfl 21 (by decide) wf_X7_55 rfl d kk
theorem r_ld_21 (C0 : CX p l s m args meth c RX7 cc nL ret D Y A E) {i v : Int32} (hi : vp_in i 100) (d : decode cc pc = .ok (.iaload, 1)) (hv : g21 i.toNatClampNeg = v) (kk : J p l e R s m args below meth c A nL Q (OV D Y A ad f0 f1 f5 f18 f19 f20 g2 g3 g4 g6 g7 g8 g9 g10 g11 g12 g13 g14 g15 g16 g17 g21 g22 g23 g24 g25) cells slots (pc + 1) L (.int v :: st)) : J p l e R s m args below meth c A nL Q (OV D Y A ad f0 f1 f5 f18 f19 f20 g2 g3 g4 g6 g7 g8 g9 g10 g11 g12 g13 g14 g15 g16 g17 g21 g22 g23 g24 g25) cells slots pc L (.int i :: .ref (ad 21) :: st) := by subst hv; exact j_iald (ws := wsR Y ad f0 f1 f5 f18 f19 f20 g2 g3 g4 g6 g7 g8 g9 g10 g11 g12 g13 g14 g15 g16 g17 g21 g22 g23 g24 g25) C0 16 rfl hi d kk
theorem r_st_21 (C0 : CX p l s m args meth c RX7 cc nL ret D Y A E) {i x : Int32} (hi : vp_in i 100) (d : decode cc pc = .ok (.iastore, 1)) (kk : J p l e R s m args below meth c A nL Q (OV D Y A ad f0 f1 f5 f18 f19 f20 g2 g3 g4 g6 g7 g8 g9 g10 g11 g12 g13 g14 g15 g16 g17 (upd g21 i.toNatClampNeg (x)) g22 g23 g24 g25) cells slots (pc + 1) L st) : J p l e R s m args below meth c A nL Q (OV D Y A ad f0 f1 f5 f18 f19 f20 g2 g3 g4 g6 g7 g8 g9 g10 g11 g12 g13 g14 g15 g16 g17 g21 g22 g23 g24 g25) cells slots pc L (.int x :: .int i :: .ref (ad 21) :: st) := j_iast (ws := wsR Y ad f0 f1 f5 f18 f19 f20 g2 g3 g4 g6 g7 g8 g9 g10 g11 g12 g13 g14 g15 g16 g17 g21 g22 g23 g24 g25) C0 16 rfl hi d kk
theorem r_gf_22 (C0 : CX p l s m args meth c RX7 cc nL ret D Y A E) (d : decode cc pc = .ok (.getfield 58, 3)) (kk : J p l e R s m args below meth c A nL Q (OV D Y A ad f0 f1 f5 f18 f19 f20 g2 g3 g4 g6 g7 g8 g9 g10 g11 g12 g13 g14 g15 g16 g17 g21 g22 g23 g24 g25) cells slots (pc + 3) L (.ref (ad 22) :: st)) : J p l e R s m args below meth c A nL Q (OV D Y A ad f0 f1 f5 f18 f19 f20 g2 g3 g4 g6 g7 g8 g9 g10 g11 g12 g13 g14 g15 g16 g17 g21 g22 g23 g24 g25) cells slots pc L (.ref (ad 0) :: st) := j_get (ws := wsR Y ad f0 f1 f5 f18 f19 f20 g2 g3 g4 g6 g7 g8 g9 g10 g11 g12 g13 g14 g15 g16 g17 g21 g22 g23 g24 g25) C0 in_X7 (ci := 10) rfl 0 (fs := fsR ad f0 f1 f5 f18 f19 f20) rfl 22 (by decide) wf_X7_58 rfl d kk
theorem r_ld_22 (C0 : CX p l s m args meth c RX7 cc nL ret D Y A E) {i v : Int32} (hi : vp_in i 100) (d : decode cc pc = .ok (.iaload, 1)) (hv : g22 i.toNatClampNeg = v) (kk : J p l e R s m args below meth c A nL Q (OV D Y A ad f0 f1 f5 f18 f19 f20 g2 g3 g4 g6 g7 g8 g9 g10 g11 g12 g13 g14 g15 g16 g17 g21 g22 g23 g24 g25) cells slots (pc + 1) L (.int v :: st)) : J p l e R s m args below meth c A nL Q (OV D Y A ad f0 f1 f5 f18 f19 f20 g2 g3 g4 g6 g7 g8 g9 g10 g11 g12 g13 g14 g15 g16 g17 g21 g22 g23 g24 g25) cells slots pc L (.int i :: .ref (ad 22) :: st) := by subst hv; exact j_iald (ws := wsR Y ad f0 f1 f5 f18 f19 f20 g2 g3 g4 g6 g7 g8 g9 g10 g11 g12 g13 g14 g15 g16 g17 g21 g22 g23 g24 g25) C0 17 rfl hi d kk
theorem r_st_22 (C0 : CX p l s m args meth c RX7 cc nL ret D Y A E) {i x : Int32} (hi : vp_in i 100) (d : decode cc pc = .ok (.iastore, 1)) (kk : J p l e R s m args below meth c A nL Q (OV D Y A ad f0 f1 f5 f18 f19 f20 g2 g3 g4 g6 g7 g8 g9 g10 g11 g12 g13 g14 g15 g16 g17 g21 (upd g22 i.toNatClampNeg (x)) g23 g24 g25) cells slots (pc + 1) L st) : J p l e R s m args below meth c A nL Q (OV D Y A ad f0 f1 f5 f18 f19 f20 g2 g3 g4 g6 g7 g8 g9 g10 g11 g12 g13 g14 g15 g16 g17 g21 g22 g23 g24 g25) cells slots pc L (.int x :: .int i :: .ref (ad 22) :: st) := j_iast (ws := wsR Y ad f0 f1 f5 f18 f19 f20 g2 g3 g4 g6 g7 g8 g9 g10 g11 g12 g13 g14 g15 g16 g17 g21 g22 g23 g24 g25) C0 17 rfl hi d kk
theorem r_gf_23 (C0 : CX p l s m args meth c RX7 cc nL ret D Y A E) (d : decode cc pc = .ok (.getfield 61, 3)) (kk : J p l e R s m args below meth c A nL Q (OV D Y A ad f0 f1 f5 f18 f19 f20 g2 g3 g4 g6 g7 g8 g9 g10 g11 g12 g13 g14 g15 g16 g17 g21 g22 g23 g24 g25) cells slots (pc + 3) L (.ref (ad 23) :: st)) : J p l e R s m args below meth c A nL Q (OV D Y A ad f0 f1 f5 f18 f19 f20 g2 g3 g4 g6 g7 g8 g9 g10 g11 g12 g13 g14 g15 g16 g17 g21 g22 g23 g24 g25) cells slots pc L (.ref (ad 0) :: st) := j_get (ws := wsR Y ad f0 f1 f5 f18 f19 f20 g2 g3 g4 g6 g7 g8 g9 g10 g11 g12 g13 g14 g15 g16 g17 g21 g22 g23 g24 g25) C0 in_X7 (ci := 10) rfl 0 (fs := fsR ad f0 f1 f5 f18 f19 f20) rfl 23 (by decide) wf_X7_61 rfl d kk
theorem r_ld_23 (C0 : CX p l s m args meth c RX7 cc nL ret D Y A E) {i v : Int32} (hi : vp_in i 100) (d : decode cc pc = .ok (.iaload, 1)) (hv : g23 i.toNatClampNeg = v) (kk : J p l e R s m args below meth c A nL Q (OV D Y A ad f0 f1 f5 f18 f19 f20 g2 g3 g4 g6 g7 g8 g9 g10 g11 g12 g13 g14 g15 g16 g17 g21 g22 g23 g24 g25) cells slots (pc + 1) L (.int v :: st)) : J p l e R s m args below meth c A nL Q (OV D Y A ad f0 f1 f5 f18 f19 f20 g2 g3 g4 g6 g7 g8 g9 g10 g11 g12 g13 g14 g15 g16 g17 g21 g22 g23 g24 g25) cells slots pc L (.int i :: .ref (ad 23) :: st) := by subst hv; exact j_iald (ws := wsR Y ad f0 f1 f5 f18 f19 f20 g2 g3 g4 g6 g7 g8 g9 g10 g11 g12 g13 g14 g15 g16 g17 g21 g22 g23 g24 g25) C0 18 rfl hi d kk
theorem r_st_23 (C0 : CX p l s m args meth c RX7 cc nL ret D Y A E) {i x : Int32} (hi : vp_in i 100) (d : decode cc pc = .ok (.iastore, 1)) (kk : J p l e R s m args below meth c A nL Q (OV D Y A ad f0 f1 f5 f18 f19 f20 g2 g3 g4 g6 g7 g8 g9 g10 g11 g12 g13 g14 g15 g16 g17 g21 g22 (upd g23 i.toNatClampNeg (x)) g24 g25) cells slots (pc + 1) L st) : J p l e R s m args below meth c A nL Q (OV D Y A ad f0 f1 f5 f18 f19 f20 g2 g3 g4 g6 g7 g8 g9 g10 g11 g12 g13 g14 g15 g16 g17 g21 g22 g23 g24 g25) cells slots pc L (.int x :: .int i :: .ref (ad 23) :: st) := j_iast (ws := wsR Y ad f0 f1 f5 f18 f19 f20 g2 g3 g4 g6 g7 g8 g9 g10 g11 g12 g13 g14 g15 g16 g17 g21 g22 g23 g24 g25) C0 18 rfl hi d kk
theorem r_gf_24 (C0 : CX p l s m args meth c RX7 cc nL ret D Y A E) (d : decode cc pc = .ok (.getfield 64, 3)) (kk : J p l e R s m args below meth c A nL Q (OV D Y A ad f0 f1 f5 f18 f19 f20 g2 g3 g4 g6 g7 g8 g9 g10 g11 g12 g13 g14 g15 g16 g17 g21 g22 g23 g24 g25) cells slots (pc + 3) L (.ref (ad 24) :: st)) : J p l e R s m args below meth c A nL Q (OV D Y A ad f0 f1 f5 f18 f19 f20 g2 g3 g4 g6 g7 g8 g9 g10 g11 g12 g13 g14 g15 g16 g17 g21 g22 g23 g24 g25) cells slots pc L (.ref (ad 0) :: st) := j_get (ws := wsR Y ad f0 f1 f5 f18 f19 f20 g2 g3 g4 g6 g7 g8 g9 g10 g11 g12 g13 g14 g15 g16 g17 g21 g22 g23 g24 g25) C0 in_X7 (ci := 10) rfl 0 (fs := fsR ad f0 f1 f5 f18 f19 f20) rfl 24 (by decide) wf_X7_64 rfl d kk
theorem r_ld_24 (C0 : CX p l s m args meth c RX7 cc nL ret D Y A E) {i v : Int32} (hi : vp_in i 100) (d : decode cc pc = .ok (.iaload, 1)) (hv : g24 i.toNatClampNeg = v) (kk : J p l e R s m args below meth c A nL Q (OV D Y A ad f0 f1 f5 f18 f19 f20 g2 g3 g4 g6 g7 g8 g9 g10 g11 g12 g13 g14 g15 g16 g17 g21 g22 g23 g24 g25) cells slots (pc + 1) L (.int v :: st)) : J p l e R s m args below meth c A nL Q (OV D Y A ad f0 f1 f5 f18 f19 f20 g2 g3 g4 g6 g7 g8 g9 g10 g11 g12 g13 g14 g15 g16 g17 g21 g22 g23 g24 g25) cells slots pc L (.int i :: .ref (ad 24) :: st) := by subst hv; exact j_iald (ws := wsR Y ad f0 f1 f5 f18 f19 f20 g2 g3 g4 g6 g7 g8 g9 g10 g11 g12 g13 g14 g15 g16 g17 g21 g22 g23 g24 g25) C0 19 rfl hi d kk
theorem r_st_24 (C0 : CX p l s m args meth c RX7 cc nL ret D Y A E) {i x : Int32} (hi : vp_in i 100) (d : decode cc pc = .ok (.iastore, 1)) (kk : J p l e R s m args below meth c A nL Q (OV D Y A ad f0 f1 f5 f18 f19 f20 g2 g3 g4 g6 g7 g8 g9 g10 g11 g12 g13 g14 g15 g16 g17 g21 g22 g23 (upd g24 i.toNatClampNeg (x)) g25) cells slots (pc + 1) L st) : J p l e R s m args below meth c A nL Q (OV D Y A ad f0 f1 f5 f18 f19 f20 g2 g3 g4 g6 g7 g8 g9 g10 g11 g12 g13 g14 g15 g16 g17 g21 g22 g23 g24 g25) cells slots pc L (.int x :: .int i :: .ref (ad 24) :: st) := j_iast (ws := wsR Y ad f0 f1 f5 f18 f19 f20 g2 g3 g4 g6 g7 g8 g9 g10 g11 g12 g13 g14 g15 g16 g17 g21 g22 g23 g24 g25) C0 19 rfl hi d kk
theorem r_gf_25 (C0 : CX p l s m args meth c RX7 cc nL ret D Y A E) (d : decode cc pc = .ok (.getfield 67, 3)) (kk : J p l e R s m args below meth c A nL Q (OV D Y A ad f0 f1 f5 f18 f19 f20 g2 g3 g4 g6 g7 g8 g9 g10 g11 g12 g13 g14 g15 g16 g17 g21 g22 g23 g24 g25) cells slots (pc + 3) L (.ref (ad 25) :: st)) : J p l e R s m args below meth c A nL Q (OV D Y A ad f0 f1 f5 f18 f19 f20 g2 g3 g4 g6 g7 g8 g9 g10 g11 g12 g13 g14 g15 g16 g17 g21 g22 g23 g24 g25) cells slots pc L (.ref (ad 0) :: st) := j_get (ws := wsR Y ad f0 f1 f5 f18 f19 f20 g2 g3 g4 g6 g7 g8 g9 g10 g11 g12 g13 g14 g15 g16 g17 g21 g22 g23 g24 g25) C0 in_X7 (ci := 10) rfl 0 (fs := fsR ad f0 f1 f5 f18 f19 f20) rfl 25 (by decide) wf_X7_67 rfl d kk
theorem r_ld_25 (C0 : CX p l s m args meth c RX7 cc nL ret D Y A E) {i v : Int32} (hi : vp_in i 100) (d : decode cc pc = .ok (.baload, 1)) (hv : g25 i.toNatClampNeg = v) (kk : J p l e R s m args below meth c A nL Q (OV D Y A ad f0 f1 f5 f18 f19 f20 g2 g3 g4 g6 g7 g8 g9 g10 g11 g12 g13 g14 g15 g16 g17 g21 g22 g23 g24 g25) cells slots (pc + 1) L (.int v :: st)) : J p l e R s m args below meth c A nL Q (OV D Y A ad f0 f1 f5 f18 f19 f20 g2 g3 g4 g6 g7 g8 g9 g10 g11 g12 g13 g14 g15 g16 g17 g21 g22 g23 g24 g25) cells slots pc L (.int i :: .ref (ad 25) :: st) := by subst hv; exact j_zald (ws := wsR Y ad f0 f1 f5 f18 f19 f20 g2 g3 g4 g6 g7 g8 g9 g10 g11 g12 g13 g14 g15 g16 g17 g21 g22 g23 g24 g25) C0 20 rfl hi d kk
theorem r_st_25 (C0 : CX p l s m args meth c RX7 cc nL ret D Y A E) {i x : Int32} (hi : vp_in i 100) (d : decode cc pc = .ok (.bastore, 1)) (kk : J p l e R s m args below meth c A nL Q (OV D Y A ad f0 f1 f5 f18 f19 f20 g2 g3 g4 g6 g7 g8 g9 g10 g11 g12 g13 g14 g15 g16 g17 g21 g22 g23 g24 (upd g25 i.toNatClampNeg (vp_nar .boolean x))) cells slots (pc + 1) L st) : J p l e R s m args below meth c A nL Q (OV D Y A ad f0 f1 f5 f18 f19 f20 g2 g3 g4 g6 g7 g8 g9 g10 g11 g12 g13 g14 g15 g16 g17 g21 g22 g23 g24 g25) cells slots pc L (.int x :: .int i :: .ref (ad 25) :: st) := j_zast (ws := wsR Y ad f0 f1 f5 f18 f19 f20 g2 g3 g4 g6 g7 g8 g9 g10 g11 g12 g13 g14 g15 g16 g17 g21 g22 g23 g24 g25) C0 20 rfl hi d kk
end RR
theorem hb_lp {α : Type} (P : Nat → α → Prop) (f : Nat → α → α) (a : α) (N : Nat) (hs : ∀ j, j < N → P (j + 1) (f j (nf f a j)) → P j (nf f a j)) (hN : P N (nf f a N)) : P 0 a := hb_loop P f a N hN hs
end
section
/-! THE REFERENCE'S METHODS: models (v: the answer, s: the state) and contracts -/
def ct (x : Int32) (n : Nat) : Prop := ∃ k, k ≤ n ∧ x = nI k
theorem ct.cl {x : Int32} {n : Nat} (h : ct x n) (hn : n < 2 ^ 31) : x.toNatClampNeg ≤ n := by
  obtain ⟨k, h1, rfl⟩ := h
  rw [nI_clamp (by omega)]
  exact h1
theorem nb_of {v : Int32} (h : v = 0 ∨ v = 1) : narrow .boolean (.int v) = .int v := by rcases h with rfl | rfl <;> rfl
theorem vp_rem12 {x : Int32} {n : Nat} (h : vp_in x n) (hn : n < 2 ^ 31) : vp_in (x - x / (12 : Int32) * (12 : Int32)) 12 := by
  obtain ⟨j, h1, rfl⟩ := vp_in_of h hn
  have := pk_rem (a := j) (d := 12) (by omega) (by decide) (by decide)
  rw [show (12 : Int32) = nI 12 from rfl, this]
  exact vp_in_nI (Nat.mod_lt _ (by decide)) (by decide)
theorem vp_at {N : Nat} {P : Int32 → Prop} {g : Nat → Int32} {j : Nat} (h : ∀ j, j < N → P (g j)) (hj : j < N) (hN : N < 2 ^ 31) : P (g (nI j).toNatClampNeg) := by
  rw [nI_clamp (by omega)]
  exact h j hj
theorem vp_cl {x : Int32} {N : Nat} (h : vp_in x N) : x.toNatClampNeg < N := Nat.not_le.mp fun q => h (Or.inr q)
/-! ## thrown()I -/
def vX7_thrown (F : Nat → Int32) (G : Nat → Nat → Int32) : Int32 := (F 0)
set_option maxRecDepth 100000 in
set_option maxHeartbeats 4000000 in
theorem k_X7_thrown {l : Launch} (hl : l.stackTraces = false) {D : va_G} {Y : Nat → ClassId} {A : Nat → Prop} {E : State → Prop} (ad : Nat → Nat) (F : Nat → Int32) (G : Nat → Nat → Int32)   : KM l yX7_thrown cX7_thrown 1 (some .int) D Y A E 0 0 0 0 [.ref (ad 0)] (OR D Y A ad F G) (some (.int (vX7_thrown F G))) (OR D Y A ad F G) := by
  refine KM_of RX7 [(0, .ref (ad 0))] rfl (by decide) hl (Nat.le_of_ble_eq_true rfl) rfl (lok_of rfl rfl) ?_
  intro p e s m args below meth c C0
  refine j_aload_n C0 dX7_thrown_0 rfl ?_
  refine r_gf_0 C0 (v := (F 0)) dX7_thrown_1 rfl ?_
  exact j_iretE C0 rfl (by rw [vX7_thrown]) dX7_thrown_4 (fun H h => h)
/-! ## holds(I)Z -/
def vX7_holds (F : Nat → Int32) (G : Nat → Nat → Int32) (a1 : Int32) : Int32 := (if a1 = 0 then (1 : Int32) else (0 : Int32))
set_option maxRecDepth 100000 in
set_option maxHeartbeats 4000000 in
theorem k_X7_holds {l : Launch} (hl : l.stackTraces = false) {D : va_G} {Y : Nat → ClassId} {A : Nat → Prop} {E : State → Prop} (ad : Nat → Nat) (F : Nat → Int32) (G : Nat → Nat → Int32) (a1 : Int32)  : KM l yX7_holds cX7_holds 2 (some .boolean) D Y A E 0 0 0 0 [.ref (ad 0), .int (a1)] (OR D Y A ad F G) (some (.int (vX7_holds F G a1))) (OR D Y A ad (hu F 0 a1) G) := by
  refine KM_of RX7 [(0, .ref (ad 0)), (1, .int (a1))] rfl (by decide) hl (Nat.le_of_ble_eq_true rfl) rfl (lok_of rfl rfl) ?_
  intro p e s m args below meth c C0
  refine j_aload_n C0 dX7_holds_0 rfl ?_
  refine j_iload_n C0 dX7_holds_1 rfl ?_
  refine r_pf_0 C0 dX7_holds_2 ?_
  refine j_iload_n C0 dX7_holds_5 rfl ?_
  refine j_if_ne C0 13 dX7_holds_6 (by decide) (fun (q1 : ¬ (a1 = 0)) => ?_) (fun (q1 : a1 = 0) => ?_)
  ·
    refine j_iconst C0 (v := 0) dX7_holds_13 (by decide) ?_
    exact j_zretE C0 rfl (by rw [vX7_holds, if_neg q1]) (by decide) dX7_holds_14 (fun H h => h)
  ·
    refine j_iconst C0 (v := 1) dX7_holds_9 (by decide) ?_
    refine j_goto C0 14 dX7_holds_10 (by decide) ?_
    exact j_zretE C0 rfl (by rw [vX7_holds, if_pos q1]) (by decide) dX7_holds_14 (fun H h => h)
/-! ## isIn(III)Z -/
def vX7_isIn (a1 : Int32) (a2 : Int32) (a3 : Int32) : Int32 := (if a1 < a2 then (0 : Int32) else (if a3 < a1 then (0 : Int32) else (1 : Int32)))
set_option maxRecDepth 100000 in
set_option maxHeartbeats 4000000 in
theorem k_X7_isIn {l : Launch} (hl : l.stackTraces = false) {D : va_G} {Y : Nat → ClassId} {A : Nat → Prop} {E : State → Prop} {Ω : Heap → Prop} (a1 : Int32) (a2 : Int32) (a3 : Int32)  : KM l yX7_isIn cX7_isIn 3 (some .boolean) D Y A E 0 0 0 0 [.int (a1), .int (a2), .int (a3)] Ω (some (.int (vX7_isIn a1 a2 a3))) Ω := by
  refine KM_of RX7 [(0, .int (a1)), (1, .int (a2)), (2, .int (a3))] rfl (by decide) hl (Nat.le_of_ble_eq_true rfl) rfl (lok_of rfl rfl) ?_
  intro p e s m args below meth c C0
  refine j_iload_n C0 dX7_isIn_0 rfl ?_
  refine j_iload_n C0 dX7_isIn_1 rfl ?_
  refine j_icmp_lt C0 14 dX7_isIn_2 (by decide) (fun (q1 : a1 < a2) => ?_) (fun (q1 : ¬ (a1 < a2)) => ?_)
  ·
    refine j_iconst C0 (v := 0) dX7_isIn_14 (by decide) ?_
    exact j_zretE C0 rfl (by rw [vX7_isIn, if_pos q1]) (by decide) dX7_isIn_15 (fun H h => h)
  ·
    refine j_iload_n C0 dX7_isIn_5 rfl ?_
    refine j_iload_n C0 dX7_isIn_6 rfl ?_
    refine j_icmp_gt C0 14 dX7_isIn_7 (by decide) (fun (q2 : a3 < a1) => ?_) (fun (q2 : ¬ (a3 < a1)) => ?_)
    ·
      refine j_iconst C0 (v := 0) dX7_isIn_14 (by decide) ?_
      exact j_zretE C0 rfl (by rw [vX7_isIn, if_neg q1, if_pos q2]) (by decide) dX7_isIn_15 (fun H h => h)
    ·
      refine j_iconst C0 (v := 1) dX7_isIn_10 (by decide) ?_
      refine j_goto C0 15 dX7_isIn_11 (by decide) ?_
      exact j_zretE C0 rfl (by rw [vX7_isIn, if_neg q1, if_neg q2]) (by decide) dX7_isIn_15 (fun H h => h)
theorem z_X7_isIn : ∀ a1 a2 a3, vX7_isIn a1 a2 a3 = 0 ∨ vX7_isIn a1 a2 a3 = 1 := by
  intro a1 a2 a3
  unfold vX7_isIn
  repeat' split
  all_goals first | exact Or.inl rfl | exact Or.inr rfl
theorem isIn_t {a b c : Int32} (h : ¬ vX7_isIn a b c = 0) : b ≤ a ∧ a ≤ c := by
  unfold vX7_isIn at h
  split at h
  · exact absurd rfl h
  · split at h
    · exact absurd rfl h
    · rename_i h1 h2
      simp only [Int32.lt_iff_toInt_lt, Int32.le_iff_toInt_le] at *
      omega
theorem isIn_f {a b c : Int32} (h : vX7_isIn a b c = 0) : ¬ (b ≤ a ∧ a ≤ c) := by
  unfold vX7_isIn at h
  simp only [Int32.lt_iff_toInt_lt, Int32.le_iff_toInt_le] at *
  split at h
  · omega
  · split at h
    · omega
    · exact absurd h (by decide)
theorem isIn_vp {a c : Int32} {n : Nat} (h : ¬ vX7_isIn a 0 c = 0) (hc : c.toInt < n) : vp_in a n := by
  have h1 := isIn_t h
  rw [vp_in_iff]
  simp only [Int32.le_iff_toInt_le, Int32.toInt_zero] at h1
  omega
/-! ## isShip(I)Z -/
def vX7_isShip (F : Nat → Int32) (G : Nat → Nat → Int32) (a1 : Int32) : Int32 := (vX7_isIn (a1) ((0 : Int32)) (((F 5) - (1 : Int32))))
set_option maxRecDepth 100000 in
set_option maxHeartbeats 4000000 in
theorem k_X7_isShip {l : Launch} (hl : l.stackTraces = false) {D : va_G} {Y : Nat → ClassId} {A : Nat → Prop} {E : State → Prop} (ad : Nat → Nat) (F : Nat → Int32) (G : Nat → Nat → Int32) (a1 : Int32)  : KM l yX7_isShip cX7_isShip 2 (some .boolean) D Y A E 1 22 0 0 [.ref (ad 0), .int (a1)] (OR D Y A ad F G) (some (.int (vX7_isShip F G a1))) (OR D Y A ad F G) := by
  refine KM_of RX7 [(0, .ref (ad 0)), (1, .int (a1))] rfl (by decide) hl (Nat.le_of_ble_eq_true rfl) rfl (lok_of rfl rfl) ?_
  intro p e s m args below meth c C0
  refine j_iload_n C0 dX7_isShip_0 rfl ?_
  refine j_iconst C0 (v := 0) dX7_isShip_1 (by decide) ?_
  refine j_aload_n C0 dX7_isShip_2 rfl ?_
  refine r_gf_5 C0 (v := (F 5)) dX7_isShip_3 rfl ?_
  refine j_iconst C0 (v := 1) dX7_isShip_6 (by decide) ?_
  refine j_isub C0 dX7_isShip_7 ?_
  refine j_callSv C0 (k_X7_isIn hl (a1) ((0 : Int32)) (((F 5) - (1 : Int32))) ) ms_X7_isIn wm_X7_78 rfl rfl ⟨Nat.le_of_ble_eq_true rfl, Nat.le_of_ble_eq_true rfl⟩ (Nat.le_of_ble_eq_true rfl) ⟨Nat.le_refl _, Nat.le_refl _⟩ dX7_isShip_8 ?_
  exact j_zretE C0 rfl (by rw [vX7_isShip]) (nb_of (z_X7_isIn _ _ _)) dX7_isShip_11 (fun H h => h)
theorem z_X7_isShip : ∀ F G a1, vX7_isShip F G a1 = 0 ∨ vX7_isShip F G a1 = 1 := by
  intro F G a1
  unfold vX7_isShip
  repeat' split
  all_goals first | exact Or.inl rfl | exact Or.inr rfl | exact z_X7_isIn _ _ _
theorem isShip_vp {F : Nat → Int32} {G : Nat → Nat → Int32} {a : Int32} (hs : ct (F 5) 30) (h : ¬ vX7_isShip F G a = 0) : vp_in a 30 := by
  obtain ⟨k, h1, h2⟩ := hs
  refine isIn_vp h ?_
  rw [h2, show (1 : Int32) = nI 1 from rfl, pk_sub_toInt (by omega) (by decide)]
  omega
theorem isShip_lt {F : Nat → Int32} {G : Nat → Nat → Int32} {a : Int32} {k : Nat} (hk : k ≤ 30) (h2 : F 5 = nI k) (h : ¬ vX7_isShip F G a = 0) : vp_in a k := by
  refine isIn_vp h ?_
  rw [h2, show (1 : Int32) = nI 1 from rfl, pk_sub_toInt (by omega) (by decide)]
  omega
theorem isShip_no {F : Nat → Int32} {G : Nat → Nat → Int32} {a : Int32} {k : Nat} (hk : k ≤ 30) (h2 : F 5 = nI k) (h : vX7_isShip F G a = 0) : ¬ vp_in a k := by
  have h3 := isIn_f h
  rw [vp_in_iff]
  simp only [Int32.le_iff_toInt_le, Int32.toInt_zero] at h3
  rw [h2, show (1 : Int32) = nI 1 from rfl, pk_sub_toInt (by omega) (by decide)] at h3
  omega
/-! ## isMove(I)Z -/
def vX7_isMove (F : Nat → Int32) (G : Nat → Nat → Int32) (a1 : Int32) : Int32 := (vX7_isIn (a1) ((0 : Int32)) (((F 20) - (1 : Int32))))
set_option maxRecDepth 100000 in
set_option maxHeartbeats 4000000 in
theorem k_X7_isMove {l : Launch} (hl : l.stackTraces = false) {D : va_G} {Y : Nat → ClassId} {A : Nat → Prop} {E : State → Prop} (ad : Nat → Nat) (F : Nat → Int32) (G : Nat → Nat → Int32) (a1 : Int32)  : KM l yX7_isMove cX7_isMove 2 (some .boolean) D Y A E 1 22 0 0 [.ref (ad 0), .int (a1)] (OR D Y A ad F G) (some (.int (vX7_isMove F G a1))) (OR D Y A ad F G) := by
  refine KM_of RX7 [(0, .ref (ad 0)), (1, .int (a1))] rfl (by decide) hl (Nat.le_of_ble_eq_true rfl) rfl (lok_of rfl rfl) ?_
  intro p e s m args below meth c C0
  refine j_iload_n C0 dX7_isMove_0 rfl ?_
  refine j_iconst C0 (v := 0) dX7_isMove_1 (by decide) ?_
  refine j_aload_n C0 dX7_isMove_2 rfl ?_
  refine r_gf_20 C0 (v := (F 20)) dX7_isMove_3 rfl ?_
  refine j_iconst C0 (v := 1) dX7_isMove_6 (by decide) ?_
  refine j_isub C0 dX7_isMove_7 ?_
  refine j_callSv C0 (k_X7_isIn hl (a1) ((0 : Int32)) (((F 20) - (1 : Int32))) ) ms_X7_isIn wm_X7_78 rfl rfl ⟨Nat.le_of_ble_eq_true rfl, Nat.le_of_ble_eq_true rfl⟩ (Nat.le_of_ble_eq_true rfl) ⟨Nat.le_refl _, Nat.le_refl _⟩ dX7_isMove_8 ?_
  exact j_zretE C0 rfl (by rw [vX7_isMove]) (nb_of (z_X7_isIn _ _ _)) dX7_isMove_11 (fun H h => h)
theorem z_X7_isMove : ∀ F G a1, vX7_isMove F G a1 = 0 ∨ vX7_isMove F G a1 = 1 := by
  intro F G a1
  unfold vX7_isMove
  repeat' split
  all_goals first | exact Or.inl rfl | exact Or.inr rfl | exact z_X7_isIn _ _ _
theorem isMove_lt {F : Nat → Int32} {G : Nat → Nat → Int32} {a : Int32} {k : Nat} (hk : k ≤ 100) (h2 : F 20 = nI k) (h : ¬ vX7_isMove F G a = 0) : vp_in a k := by
  refine isIn_vp h ?_
  rw [h2, show (1 : Int32) = nI 1 from rfl, pk_sub_toInt (by omega) (by decide)]
  omega
theorem isMove_no {F : Nat → Int32} {G : Nat → Nat → Int32} {a : Int32} {k : Nat} (hk : k ≤ 100) (h2 : F 20 = nI k) (h : vX7_isMove F G a = 0) : ¬ vp_in a k := by
  have h3 := isIn_f h
  rw [vp_in_iff]
  simp only [Int32.le_iff_toInt_le, Int32.toInt_zero] at h3
  rw [h2, show (1 : Int32) = nI 1 from rfl, pk_sub_toInt (by omega) (by decide)] at h3
  omega
theorem vp_mono {a : Int32} {m n : Nat} (h : vp_in a m) (hn : m ≤ n) : vp_in a n := fun q => h (q.imp id (fun z => Nat.le_trans hn z))
/-! ## isPilot(I)Z -/
def vX7_isPilot (a1 : Int32) : Int32 := (vX7_isIn (a1) ((0 : Int32)) ((5 : Int32)))
set_option maxRecDepth 100000 in
set_option maxHeartbeats 4000000 in
theorem k_X7_isPilot {l : Launch} (hl : l.stackTraces = false) {D : va_G} {Y : Nat → ClassId} {A : Nat → Prop} {E : State → Prop} {Ω : Heap → Prop} (a1 : Int32)  : KM l yX7_isPilot cX7_isPilot 1 (some .boolean) D Y A E 1 22 0 0 [.int (a1)] Ω (some (.int (vX7_isPilot a1))) Ω := by
  refine KM_of RX7 [(0, .int (a1))] rfl (by decide) hl (Nat.le_of_ble_eq_true rfl) rfl (lok_of rfl rfl) ?_
  intro p e s m args below meth c C0
  refine j_iload_n C0 dX7_isPilot_0 rfl ?_
  refine j_iconst C0 (v := 0) dX7_isPilot_1 (by decide) ?_
  refine j_iconst C0 (v := 5) dX7_isPilot_2 (by decide) ?_
  refine j_callSv C0 (k_X7_isIn hl (a1) ((0 : Int32)) ((5 : Int32)) ) ms_X7_isIn wm_X7_78 rfl rfl ⟨Nat.le_of_ble_eq_true rfl, Nat.le_of_ble_eq_true rfl⟩ (Nat.le_of_ble_eq_true rfl) ⟨Nat.le_refl _, Nat.le_refl _⟩ dX7_isPilot_3 ?_
  exact j_zretE C0 rfl (by rw [vX7_isPilot]) (nb_of (z_X7_isIn _ _ _)) dX7_isPilot_6 (fun H h => h)
theorem z_X7_isPilot : ∀ a1, vX7_isPilot a1 = 0 ∨ vX7_isPilot a1 = 1 := by
  intro a1
  unfold vX7_isPilot
  repeat' split
  all_goals first | exact Or.inl rfl | exact Or.inr rfl | exact z_X7_isIn _ _ _
theorem isPilot_vp {a : Int32} (h : ¬ vX7_isPilot a = 0) : vp_in a 6 := isIn_vp h (by decide)
/-- what the state keeps: now, the counts, and that the rows of berths, of moves' ships, of the rota hold numbers of their kinds -/
def RI (F : Nat → Int32) (G : Nat → Nat → Int32) : Prop := ct (F 1) 3000 ∧ ct (F 5) 30 ∧ ct (F 20) 100 ∧ (∀ j, j < 30 → vp_in (G 9 j) 6) ∧ (∀ j, j < 100 → vp_in (G 22 j) 30) ∧ (∀ j, j < 6 → vp_in (G 16 j) 6)
/-! ## depthOf(I)I -/
def vX7_depthOf (F : Nat → Int32) (G : Nat → Nat → Int32) (a1 : Int32) : Int32 := (((G 2) ((a1 - a1 / (12 : Int32) * (12 : Int32))).toNatClampNeg) + ((G 3) (a1).toNatClampNeg))
set_option maxRecDepth 100000 in
set_option maxHeartbeats 4000000 in
theorem k_X7_depthOf {l : Launch} (hl : l.stackTraces = false) {D : va_G} {Y : Nat → ClassId} {A : Nat → Prop} {E : State → Prop} (ad : Nat → Nat) (F : Nat → Int32) (G : Nat → Nat → Int32) (a1 : Int32) (hh : vp_in a1 3160) : KM l yX7_depthOf cX7_depthOf 2 (some .int) D Y A E 0 0 0 0 [.ref (ad 0), .int (a1)] (OR D Y A ad F G) (some (.int (vX7_depthOf F G a1))) (OR D Y A ad F G) := by
  refine KM_of RX7 [(0, .ref (ad 0)), (1, .int (a1))] rfl (by decide) hl (Nat.le_of_ble_eq_true rfl) rfl (lok_of rfl rfl) ?_
  intro p e s m args below meth c C0
  refine j_aload_n C0 dX7_depthOf_0 rfl ?_
  refine r_gf_2 C0 dX7_depthOf_1 ?_
  refine j_iload_n C0 dX7_depthOf_4 rfl ?_
  refine j_bipush C0 (v := 12) dX7_depthOf_5 (by decide) ?_
  refine j_irem C0 dX7_depthOf_7 (by decide) ?_
  refine r_ld_2 C0 (v := ((G 2) ((a1 - a1 / (12 : Int32) * (12 : Int32))).toNatClampNeg)) (vp_rem12 hh (by decide)) dX7_depthOf_8 rfl ?_
  refine j_aload_n C0 dX7_depthOf_9 rfl ?_
  refine r_gf_3 C0 dX7_depthOf_10 ?_
  refine j_iload_n C0 dX7_depthOf_13 rfl ?_
  refine r_ld_3 C0 (v := ((G 3) (a1).toNatClampNeg)) hh dX7_depthOf_14 rfl ?_
  refine j_iadd C0 dX7_depthOf_15 ?_
  exact j_iretE C0 rfl (by rw [vX7_depthOf]) dX7_depthOf_16 (fun H h => h)
/-! ## wasUsed(I)Z -/
def bX7_wasUsed_4 (F : Nat → Int32) (G : Nat → Nat → Int32) (a1 : Int32) (j4 : Nat) (v4 : Int32) : Int32 := (if v4 = 0 then (if ((G 9) (((G 22) (nI j4).toNatClampNeg)).toNatClampNeg) = a1 then ((1 : Int32)) else ((0 : Int32))) else ((1 : Int32)))
def vX7_wasUsed (F : Nat → Int32) (G : Nat → Nat → Int32) (a1 : Int32) : Int32 := (nf (bX7_wasUsed_4 F G a1) ((0 : Int32)) ((F 20).toNatClampNeg))
theorem z_X7_wasUsed (F : Nat → Int32) (G : Nat → Nat → Int32) (a1 : Int32) (N : Nat) : nf (bX7_wasUsed_4 F G a1) (0 : Int32) N = 0 ∨ nf (bX7_wasUsed_4 F G a1) (0 : Int32) N = 1 := by
  induction N with
  | zero => exact Or.inl rfl
  | succ n ih =>
    rw [nf, bX7_wasUsed_4]
    repeat' split
    all_goals first | exact Or.inl rfl | exact Or.inr rfl | exact ih
set_option maxRecDepth 100000 in
set_option maxHeartbeats 4000000 in
theorem k_X7_wasUsed {l : Launch} (hl : l.stackTraces = false) {D : va_G} {Y : Nat → ClassId} {A : Nat → Prop} {E : State → Prop} (ad : Nat → Nat) (F : Nat → Int32) (G : Nat → Nat → Int32) (a1 : Int32) (hm : ct (F 20) 100) (hw : ∀ j, j < 100 → vp_in (G 22 j) 30) : KM l yX7_wasUsed cX7_wasUsed 4 (some .boolean) D Y A E 0 0 0 0 [.ref (ad 0), .int (a1)] (OR D Y A ad F G) (some (.int (vX7_wasUsed F G a1))) (OR D Y A ad F G) := by
  refine KM_of RX7 [(0, .ref (ad 0)), (1, .int (a1))] rfl (by decide) hl (Nat.le_of_ble_eq_true rfl) rfl (lok_of rfl rfl) ?_
  intro p e s m args below meth c C0
  have hmc := hm.cl (by decide)
  refine j_iconst C0 (v := 0) dX7_wasUsed_0 (by decide) ?_
  refine j_istore_n C0 (L' := [(0, .ref (ad 0)), (1, .int (a1)), (2, .int ((0 : Int32)))]) dX7_wasUsed_1 (by decide) rfl ?_
  refine j_iconst C0 (v := 0) dX7_wasUsed_2 (by decide) ?_
  refine j_istore_n C0 (L' := [(0, .ref (ad 0)), (1, .int (a1)), (2, .int ((0 : Int32))), (3, .int ((0 : Int32)))]) dX7_wasUsed_3 (by decide) rfl ?_
  refine hb_lp (P := fun (j : Nat) (v : Int32) => J p l e _ s m args below meth c A 4 _ (OV D Y A ad (F 0) (F 1) (F 5) (F 18) (F 19) (F 20) (G 2) (G 3) (G 4) (G 6) (G 7) (G 8) (G 9) (G 10) (G 11) (G 12) (G 13) (G 14) (G 15) (G 16) (G 17) (G 21) (G 22) (G 23) (G 24) (G 25)) 0 0 4 [(0, .ref (ad 0)), (1, .int (a1)), (2, .int (v)), (3, .int (nI j))] []) (bX7_wasUsed_4 F G a1) ((0 : Int32)) ((F 20).toNatClampNeg) ?_ ?_
  ·
    intro j4 hj4 K4
    generalize nf (bX7_wasUsed_4 F G a1) ((0 : Int32)) j4 = v4 at K4 ⊢
    show J p l e _ s m args below meth c A 4 _ (OV D Y A ad (F 0) (F 1) (F 5) (F 18) (F 19) (F 20) (G 2) (G 3) (G 4) (G 6) (G 7) (G 8) (G 9) (G 10) (G 11) (G 12) (G 13) (G 14) (G 15) (G 16) (G 17) (G 21) (G 22) (G 23) (G 24) (G 25)) 0 0 4 [(0, .ref (ad 0)), (1, .int (a1)), (2, .int (v4)), (3, .int (nI j4))] []
    replace K4 : J p l e _ s m args below meth c A 4 _ (OV D Y A ad (F 0) (F 1) (F 5) (F 18) (F 19) (F 20) (G 2) (G 3) (G 4) (G 6) (G 7) (G 8) (G 9) (G 10) (G 11) (G 12) (G 13) (G 14) (G 15) (G 16) (G 17) (G 21) (G 22) (G 23) (G 24) (G 25)) 0 0 4 [(0, .ref (ad 0)), (1, .int (a1)), (2, .int ((bX7_wasUsed_4 F G a1 j4 v4))), (3, .int (nI (j4 + 1)))] [] := K4
    refine j_iload_n C0 dX7_wasUsed_4 rfl ?_
    refine j_aload_n C0 dX7_wasUsed_5 rfl ?_
    refine r_gf_20 C0 (v := (F 20)) dX7_wasUsed_6 rfl ?_
    refine j_icmp_ge C0 43 dX7_wasUsed_9 (by decide) (fun z => absurd z (cl_lt rfl hj4)) (fun _ => ?_)
    refine j_iload_n C0 dX7_wasUsed_12 rfl ?_
    refine j_if_ne C0 31 dX7_wasUsed_13 (by decide) (fun (q2 : ¬ (v4 = 0)) => ?_) (fun (q2 : v4 = 0) => ?_)
    ·
      refine j_iconst C0 (v := 1) dX7_wasUsed_31 (by decide) ?_
      refine j_goto C0 36 dX7_wasUsed_32 (by decide) ?_
      refine j_istore_n C0 (L' := [(0, .ref (ad 0)), (1, .int (a1)), (2, .int ((1 : Int32))), (3, .int (nI j4))]) dX7_wasUsed_36 (by decide) rfl ?_
      refine j_iinc C0 (v := nI (j4 + 1)) (L' := [(0, .ref (ad 0)), (1, .int (a1)), (2, .int ((1 : Int32))), (3, .int (nI (j4 + 1)))]) dX7_wasUsed_37 rfl (nI_inc j4) (by decide) rfl ?_
      refine j_goto C0 4 dX7_wasUsed_40 (by decide) ?_
      rw [bX7_wasUsed_4, if_neg q2] at K4
      exact K4
    ·
      refine j_aload_n C0 dX7_wasUsed_16 rfl ?_
      refine r_gf_9 C0 dX7_wasUsed_17 ?_
      refine j_aload_n C0 dX7_wasUsed_20 rfl ?_
      refine r_gf_22 C0 dX7_wasUsed_21 ?_
      refine j_iload_n C0 dX7_wasUsed_24 rfl ?_
      refine r_ld_22 C0 (v := ((G 22) (nI j4).toNatClampNeg)) (vp_nI (by omega) (by decide)) dX7_wasUsed_25 rfl ?_
      refine r_ld_9 C0 (v := ((G 9) (((G 22) (nI j4).toNatClampNeg)).toNatClampNeg)) (vp_at (N := 100) (P := fun z => vp_in z 30) (g := G 22) (j := j4) hw (by omega) (by decide)) dX7_wasUsed_26 rfl ?_
      refine j_iload_n C0 dX7_wasUsed_27 rfl ?_
      refine j_icmp_ne C0 35 dX7_wasUsed_28 (by decide) (fun (q3 : ¬ (((G 9) (((G 22) (nI j4).toNatClampNeg)).toNatClampNeg) = a1)) => ?_) (fun (q3 : ((G 9) (((G 22) (nI j4).toNatClampNeg)).toNatClampNeg) = a1) => ?_)
      ·
        refine j_iconst C0 (v := 0) dX7_wasUsed_35 (by decide) ?_
        refine j_istore_n C0 (L' := [(0, .ref (ad 0)), (1, .int (a1)), (2, .int ((0 : Int32))), (3, .int (nI j4))]) dX7_wasUsed_36 (by decide) rfl ?_
        refine j_iinc C0 (v := nI (j4 + 1)) (L' := [(0, .ref (ad 0)), (1, .int (a1)), (2, .int ((0 : Int32))), (3, .int (nI (j4 + 1)))]) dX7_wasUsed_37 rfl (nI_inc j4) (by decide) rfl ?_
        refine j_goto C0 4 dX7_wasUsed_40 (by decide) ?_
        rw [bX7_wasUsed_4, if_pos q2, if_neg q3] at K4
        exact K4
      ·
        refine j_iconst C0 (v := 1) dX7_wasUsed_31 (by decide) ?_
        refine j_goto C0 36 dX7_wasUsed_32 (by decide) ?_
        refine j_istore_n C0 (L' := [(0, .ref (ad 0)), (1, .int (a1)), (2, .int ((1 : Int32))), (3, .int (nI j4))]) dX7_wasUsed_36 (by decide) rfl ?_
        refine j_iinc C0 (v := nI (j4 + 1)) (L' := [(0, .ref (ad 0)), (1, .int (a1)), (2, .int ((1 : Int32))), (3, .int (nI (j4 + 1)))]) dX7_wasUsed_37 rfl (nI_inc j4) (by decide) rfl ?_
        refine j_goto C0 4 dX7_wasUsed_40 (by decide) ?_
        rw [bX7_wasUsed_4, if_pos q2, if_pos q3] at K4
        exact K4
  ·
    show J p l e _ s m args below meth c A 4 _ (OV D Y A ad (F 0) (F 1) (F 5) (F 18) (F 19) (F 20) (G 2) (G 3) (G 4) (G 6) (G 7) (G 8) (G 9) (G 10) (G 11) (G 12) (G 13) (G 14) (G 15) (G 16) (G 17) (G 21) (G 22) (G 23) (G 24) (G 25)) 0 0 4 [(0, .ref (ad 0)), (1, .int (a1)), (2, .int ((nf (bX7_wasUsed_4 F G a1) ((0 : Int32)) ((F 20).toNatClampNeg)))), (3, .int (nI (((F 20).toNatClampNeg))))] []
    refine j_iload_n C0 dX7_wasUsed_4 rfl ?_
    refine j_aload_n C0 dX7_wasUsed_5 rfl ?_
    refine r_gf_20 C0 (v := (F 20)) dX7_wasUsed_6 rfl ?_
    refine j_icmp_ge C0 43 dX7_wasUsed_9 (by decide) (fun _ => ?_) (fun z => absurd (cl_le rfl) z)
    refine j_iload_n C0 dX7_wasUsed_43 rfl ?_
    exact j_zretE C0 rfl (by rw [vX7_wasUsed]) (nb_of (z_X7_wasUsed F G a1 _)) dX7_wasUsed_44 (fun H h => h)
/-! ## floats(II)Z -/
def vX7_floats (F : Nat → Int32) (G : Nat → Nat → Int32) (a1 : Int32) (a2 : Int32) : Int32 := (if ((G 10) (a1).toNatClampNeg) = 0 then (if ((vX7_depthOf F G (a2)) + (30 : Int32)) < (((G 7) (a1).toNatClampNeg) + (5 : Int32)) then (0 : Int32) else (if ((vX7_depthOf F G ((a2 + (1 : Int32)))) + ((G 4) (((G 9) (a1).toNatClampNeg)).toNatClampNeg)) < (((G 7) (a1).toNatClampNeg) + (5 : Int32)) then (0 : Int32) else (1 : Int32))) else (if ((G 10) (a1).toNatClampNeg) = (2 : Int32) then (if ((vX7_depthOf F G (a2)) + ((G 4) (((G 9) (a1).toNatClampNeg)).toNatClampNeg)) < (((G 7) (a1).toNatClampNeg) + (5 : Int32)) then (0 : Int32) else (if ((vX7_depthOf F G ((a2 + (1 : Int32)))) + (30 : Int32)) < (((G 7) (a1).toNatClampNeg) + (5 : Int32)) then (0 : Int32) else (1 : Int32))) else (0 : Int32)))
set_option maxRecDepth 100000 in
set_option maxHeartbeats 4000000 in
theorem k_X7_floats {l : Launch} (hl : l.stackTraces = false) {D : va_G} {Y : Nat → ClassId} {A : Nat → Prop} {E : State → Prop} (ad : Nat → Nat) (F : Nat → Int32) (G : Nat → Nat → Int32) (a1 : Int32) (a2 : Int32) (hs1 : vp_in a1 30) (hb : vp_in (G 9 a1.toNatClampNeg) 6) (hh : vp_in a2 3160) (hh1 : vp_in (a2 + 1) 3160) : KM l yX7_floats cX7_floats 7 (some .boolean) D Y A E 1 21 0 0 [.ref (ad 0), .int (a1), .int (a2)] (OR D Y A ad F G) (some (.int (vX7_floats F G a1 a2))) (OR D Y A ad F G) := by
  refine KM_of RX7 [(0, .ref (ad 0)), (1, .int (a1)), (2, .int (a2))] rfl (by decide) hl (Nat.le_of_ble_eq_true rfl) rfl (lok_of rfl rfl) ?_
  intro p e s m args below meth c C0
  refine j_aload_n C0 dX7_floats_0 rfl ?_
  refine r_gf_10 C0 dX7_floats_1 ?_
  refine j_iload_n C0 dX7_floats_4 rfl ?_
  refine r_ld_10 C0 (v := ((G 10) (a1).toNatClampNeg)) hs1 dX7_floats_5 rfl ?_
  refine j_if_ne C0 14 dX7_floats_6 (by decide) (fun (q1 : ¬ (((G 10) (a1).toNatClampNeg) = 0)) => ?_) (fun (q1 : ((G 10) (a1).toNatClampNeg) = 0) => ?_)
  ·
    refine j_aload_n C0 dX7_floats_14 rfl ?_
    refine r_gf_4 C0 dX7_floats_15 ?_
    refine j_aload_n C0 dX7_floats_18 rfl ?_
    refine r_gf_9 C0 dX7_floats_19 ?_
    refine j_iload_n C0 dX7_floats_22 rfl ?_
    refine r_ld_9 C0 (v := ((G 9) (a1).toNatClampNeg)) hs1 dX7_floats_23 rfl ?_
    refine r_ld_4 C0 (v := ((G 4) (((G 9) (a1).toNatClampNeg)).toNatClampNeg)) hb dX7_floats_24 rfl ?_
    refine j_istore_n C0 (L' := [(0, .ref (ad 0)), (1, .int (a1)), (2, .int (a2)), (3, .int (((G 4) (((G 9) (a1).toNatClampNeg)).toNatClampNeg)))]) dX7_floats_25 (by decide) rfl ?_
    refine j_aload_n C0 dX7_floats_26 rfl ?_
    refine r_gf_10 C0 dX7_floats_27 ?_
    refine j_iload_n C0 dX7_floats_30 rfl ?_
    refine r_ld_10 C0 (v := ((G 10) (a1).toNatClampNeg)) hs1 dX7_floats_31 rfl ?_
    refine j_if_ne C0 49 dX7_floats_32 (by decide) (fun _ => ?_) (fun z => absurd z q1)
    refine j_bipush C0 (v := 30) dX7_floats_49 (by decide) ?_
    refine j_istore C0 (L' := [(0, .ref (ad 0)), (1, .int (a1)), (2, .int (a2)), (3, .int (((G 4) (((G 9) (a1).toNatClampNeg)).toNatClampNeg))), (4, .int ((30 : Int32)))]) dX7_floats_51 (by decide) rfl ?_
    refine j_aload_n C0 dX7_floats_53 rfl ?_
    refine r_gf_7 C0 dX7_floats_54 ?_
    refine j_iload_n C0 dX7_floats_57 rfl ?_
    refine r_ld_7 C0 (v := ((G 7) (a1).toNatClampNeg)) hs1 dX7_floats_58 rfl ?_
    refine j_iconst C0 (v := 5) dX7_floats_59 (by decide) ?_
    refine j_iadd C0 dX7_floats_60 ?_
    refine j_istore C0 (L' := [(0, .ref (ad 0)), (1, .int (a1)), (2, .int (a2)), (3, .int (((G 4) (((G 9) (a1).toNatClampNeg)).toNatClampNeg))), (4, .int ((30 : Int32))), (5, .int ((((G 7) (a1).toNatClampNeg) + (5 : Int32))))]) dX7_floats_61 (by decide) rfl ?_
    refine j_aload_n C0 dX7_floats_63 rfl ?_
    refine r_gf_10 C0 dX7_floats_64 ?_
    refine j_iload_n C0 dX7_floats_67 rfl ?_
    refine r_ld_10 C0 (v := ((G 10) (a1).toNatClampNeg)) hs1 dX7_floats_68 rfl ?_
    refine j_if_eq C0 82 dX7_floats_69 (by decide) (fun z => absurd z q1) (fun _ => ?_)
    refine j_aload_n C0 dX7_floats_72 rfl ?_
    refine r_gf_10 C0 dX7_floats_73 ?_
    refine j_iload_n C0 dX7_floats_76 rfl ?_
    refine r_ld_10 C0 (v := ((G 10) (a1).toNatClampNeg)) hs1 dX7_floats_77 rfl ?_
    refine j_iconst C0 (v := 2) dX7_floats_78 (by decide) ?_
    refine j_icmp_ne C0 86 dX7_floats_79 (by decide) (fun (q4 : ¬ (((G 10) (a1).toNatClampNeg) = (2 : Int32))) => ?_) (fun (q4 : ((G 10) (a1).toNatClampNeg) = (2 : Int32)) => ?_)
    ·
      refine j_iconst C0 (v := 0) dX7_floats_86 (by decide) ?_
      refine j_istore C0 (L' := [(0, .ref (ad 0)), (1, .int (a1)), (2, .int (a2)), (3, .int (((G 4) (((G 9) (a1).toNatClampNeg)).toNatClampNeg))), (4, .int ((30 : Int32))), (5, .int ((((G 7) (a1).toNatClampNeg) + (5 : Int32)))), (6, .int ((0 : Int32)))]) dX7_floats_87 (by decide) rfl ?_
      refine j_iload C0 dX7_floats_89 rfl ?_
      refine j_if_eq C0 125 dX7_floats_91 (by decide) (fun _ => ?_) (fun z => absurd (by decide) z)
      refine j_iconst C0 (v := 0) dX7_floats_125 (by decide) ?_
      exact j_zretE C0 rfl (by rw [vX7_floats, if_neg q1, if_neg q4]) (by decide) dX7_floats_126 (fun H h => h)
    ·
      refine j_iconst C0 (v := 1) dX7_floats_82 (by decide) ?_
      refine j_goto C0 87 dX7_floats_83 (by decide) ?_
      refine j_istore C0 (L' := [(0, .ref (ad 0)), (1, .int (a1)), (2, .int (a2)), (3, .int (((G 4) (((G 9) (a1).toNatClampNeg)).toNatClampNeg))), (4, .int ((30 : Int32))), (5, .int ((((G 7) (a1).toNatClampNeg) + (5 : Int32)))), (6, .int ((1 : Int32)))]) dX7_floats_87 (by decide) rfl ?_
      refine j_iload C0 dX7_floats_89 rfl ?_
      refine j_if_eq C0 125 dX7_floats_91 (by decide) (fun z => absurd z (by decide)) (fun _ => ?_)
      refine j_aload_n C0 dX7_floats_94 rfl ?_
      refine j_iload_n C0 dX7_floats_95 rfl ?_
      refine j_callVv C0 (k_X7_depthOf hl ad F G (a2) hh) mv_X7_depthOf wm_X7_92 (r_recv C0) rfl rfl ⟨Nat.le_of_ble_eq_true rfl, Nat.le_of_ble_eq_true rfl⟩ (Nat.le_of_ble_eq_true rfl) ⟨Nat.le_refl _, Nat.le_refl _⟩ dX7_floats_96 ?_
      refine j_iload_n C0 dX7_floats_99 rfl ?_
      refine j_iadd C0 dX7_floats_100 ?_
      refine j_iload C0 dX7_floats_101 rfl ?_
      refine j_icmp_lt C0 125 dX7_floats_103 (by decide) (fun (q7 : ((vX7_depthOf F G (a2)) + ((G 4) (((G 9) (a1).toNatClampNeg)).toNatClampNeg)) < (((G 7) (a1).toNatClampNeg) + (5 : Int32))) => ?_) (fun (q7 : ¬ (((vX7_depthOf F G (a2)) + ((G 4) (((G 9) (a1).toNatClampNeg)).toNatClampNeg)) < (((G 7) (a1).toNatClampNeg) + (5 : Int32)))) => ?_)
      ·
        refine j_iconst C0 (v := 0) dX7_floats_125 (by decide) ?_
        exact j_zretE C0 rfl (by rw [vX7_floats, if_neg q1, if_pos q4, if_pos q7]) (by decide) dX7_floats_126 (fun H h => h)
      ·
        refine j_aload_n C0 dX7_floats_106 rfl ?_
        refine j_iload_n C0 dX7_floats_107 rfl ?_
        refine j_iconst C0 (v := 1) dX7_floats_108 (by decide) ?_
        refine j_iadd C0 dX7_floats_109 ?_
        refine j_callVv C0 (k_X7_depthOf hl ad F G ((a2 + (1 : Int32))) hh1) mv_X7_depthOf wm_X7_92 (r_recv C0) rfl rfl ⟨Nat.le_of_ble_eq_true rfl, Nat.le_of_ble_eq_true rfl⟩ (Nat.le_of_ble_eq_true rfl) ⟨Nat.le_refl _, Nat.le_refl _⟩ dX7_floats_110 ?_
        refine j_iload C0 dX7_floats_113 rfl ?_
        refine j_iadd C0 dX7_floats_115 ?_
        refine j_iload C0 dX7_floats_116 rfl ?_
        refine j_icmp_lt C0 125 dX7_floats_118 (by decide) (fun (q8 : ((vX7_depthOf F G ((a2 + (1 : Int32)))) + (30 : Int32)) < (((G 7) (a1).toNatClampNeg) + (5 : Int32))) => ?_) (fun (q8 : ¬ (((vX7_depthOf F G ((a2 + (1 : Int32)))) + (30 : Int32)) < (((G 7) (a1).toNatClampNeg) + (5 : Int32)))) => ?_)
        ·
          refine j_iconst C0 (v := 0) dX7_floats_125 (by decide) ?_
          exact j_zretE C0 rfl (by rw [vX7_floats, if_neg q1, if_pos q4, if_neg q7, if_pos q8]) (by decide) dX7_floats_126 (fun H h => h)
        ·
          refine j_iconst C0 (v := 1) dX7_floats_121 (by decide) ?_
          refine j_goto C0 126 dX7_floats_122 (by decide) ?_
          exact j_zretE C0 rfl (by rw [vX7_floats, if_neg q1, if_pos q4, if_neg q7, if_neg q8]) (by decide) dX7_floats_126 (fun H h => h)
  ·
    refine j_bipush C0 (v := 30) dX7_floats_9 (by decide) ?_
    refine j_goto C0 25 dX7_floats_11 (by decide) ?_
    refine j_istore_n C0 (L' := [(0, .ref (ad 0)), (1, .int (a1)), (2, .int (a2)), (3, .int ((30 : Int32)))]) dX7_floats_25 (by decide) rfl ?_
    refine j_aload_n C0 dX7_floats_26 rfl ?_
    refine r_gf_10 C0 dX7_floats_27 ?_
    refine j_iload_n C0 dX7_floats_30 rfl ?_
    refine r_ld_10 C0 (v := ((G 10) (a1).toNatClampNeg)) hs1 dX7_floats_31 rfl ?_
    refine j_if_ne C0 49 dX7_floats_32 (by decide) (fun z => absurd q1 z) (fun _ => ?_)
    refine j_aload_n C0 dX7_floats_35 rfl ?_
    refine r_gf_4 C0 dX7_floats_36 ?_
    refine j_aload_n C0 dX7_floats_39 rfl ?_
    refine r_gf_9 C0 dX7_floats_40 ?_
    refine j_iload_n C0 dX7_floats_43 rfl ?_
    refine r_ld_9 C0 (v := ((G 9) (a1).toNatClampNeg)) hs1 dX7_floats_44 rfl ?_
    refine r_ld_4 C0 (v := ((G 4) (((G 9) (a1).toNatClampNeg)).toNatClampNeg)) hb dX7_floats_45 rfl ?_
    refine j_goto C0 51 dX7_floats_46 (by decide) ?_
    refine j_istore C0 (L' := [(0, .ref (ad 0)), (1, .int (a1)), (2, .int (a2)), (3, .int ((30 : Int32))), (4, .int (((G 4) (((G 9) (a1).toNatClampNeg)).toNatClampNeg)))]) dX7_floats_51 (by decide) rfl ?_
    refine j_aload_n C0 dX7_floats_53 rfl ?_
    refine r_gf_7 C0 dX7_floats_54 ?_
    refine j_iload_n C0 dX7_floats_57 rfl ?_
    refine r_ld_7 C0 (v := ((G 7) (a1).toNatClampNeg)) hs1 dX7_floats_58 rfl ?_
    refine j_iconst C0 (v := 5) dX7_floats_59 (by decide) ?_
    refine j_iadd C0 dX7_floats_60 ?_
    refine j_istore C0 (L' := [(0, .ref (ad 0)), (1, .int (a1)), (2, .int (a2)), (3, .int ((30 : Int32))), (4, .int (((G 4) (((G 9) (a1).toNatClampNeg)).toNatClampNeg))), (5, .int ((((G 7) (a1).toNatClampNeg) + (5 : Int32))))]) dX7_floats_61 (by decide) rfl ?_
    refine j_aload_n C0 dX7_floats_63 rfl ?_
    refine r_gf_10 C0 dX7_floats_64 ?_
    refine j_iload_n C0 dX7_floats_67 rfl ?_
    refine r_ld_10 C0 (v := ((G 10) (a1).toNatClampNeg)) hs1 dX7_floats_68 rfl ?_
    refine j_if_eq C0 82 dX7_floats_69 (by decide) (fun _ => ?_) (fun z => absurd q1 z)
    refine j_iconst C0 (v := 1) dX7_floats_82 (by decide) ?_
    refine j_goto C0 87 dX7_floats_83 (by decide) ?_
    refine j_istore C0 (L' := [(0, .ref (ad 0)), (1, .int (a1)), (2, .int (a2)), (3, .int ((30 : Int32))), (4, .int (((G 4) (((G 9) (a1).toNatClampNeg)).toNatClampNeg))), (5, .int ((((G 7) (a1).toNatClampNeg) + (5 : Int32)))), (6, .int ((1 : Int32)))]) dX7_floats_87 (by decide) rfl ?_
    refine j_iload C0 dX7_floats_89 rfl ?_
    refine j_if_eq C0 125 dX7_floats_91 (by decide) (fun z => absurd z (by decide)) (fun _ => ?_)
    refine j_aload_n C0 dX7_floats_94 rfl ?_
    refine j_iload_n C0 dX7_floats_95 rfl ?_
    refine j_callVv C0 (k_X7_depthOf hl ad F G (a2) hh) mv_X7_depthOf wm_X7_92 (r_recv C0) rfl rfl ⟨Nat.le_of_ble_eq_true rfl, Nat.le_of_ble_eq_true rfl⟩ (Nat.le_of_ble_eq_true rfl) ⟨Nat.le_refl _, Nat.le_refl _⟩ dX7_floats_96 ?_
    refine j_iload_n C0 dX7_floats_99 rfl ?_
    refine j_iadd C0 dX7_floats_100 ?_
    refine j_iload C0 dX7_floats_101 rfl ?_
    refine j_icmp_lt C0 125 dX7_floats_103 (by decide) (fun (q12 : ((vX7_depthOf F G (a2)) + (30 : Int32)) < (((G 7) (a1).toNatClampNeg) + (5 : Int32))) => ?_) (fun (q12 : ¬ (((vX7_depthOf F G (a2)) + (30 : Int32)) < (((G 7) (a1).toNatClampNeg) + (5 : Int32)))) => ?_)
    ·
      refine j_iconst C0 (v := 0) dX7_floats_125 (by decide) ?_
      exact j_zretE C0 rfl (by rw [vX7_floats, if_pos q1, if_pos q12]) (by decide) dX7_floats_126 (fun H h => h)
    ·
      refine j_aload_n C0 dX7_floats_106 rfl ?_
      refine j_iload_n C0 dX7_floats_107 rfl ?_
      refine j_iconst C0 (v := 1) dX7_floats_108 (by decide) ?_
      refine j_iadd C0 dX7_floats_109 ?_
      refine j_callVv C0 (k_X7_depthOf hl ad F G ((a2 + (1 : Int32))) hh1) mv_X7_depthOf wm_X7_92 (r_recv C0) rfl rfl ⟨Nat.le_of_ble_eq_true rfl, Nat.le_of_ble_eq_true rfl⟩ (Nat.le_of_ble_eq_true rfl) ⟨Nat.le_refl _, Nat.le_refl _⟩ dX7_floats_110 ?_
      refine j_iload C0 dX7_floats_113 rfl ?_
      refine j_iadd C0 dX7_floats_115 ?_
      refine j_iload C0 dX7_floats_116 rfl ?_
      refine j_icmp_lt C0 125 dX7_floats_118 (by decide) (fun (q13 : ((vX7_depthOf F G ((a2 + (1 : Int32)))) + ((G 4) (((G 9) (a1).toNatClampNeg)).toNatClampNeg)) < (((G 7) (a1).toNatClampNeg) + (5 : Int32))) => ?_) (fun (q13 : ¬ (((vX7_depthOf F G ((a2 + (1 : Int32)))) + ((G 4) (((G 9) (a1).toNatClampNeg)).toNatClampNeg)) < (((G 7) (a1).toNatClampNeg) + (5 : Int32)))) => ?_)
      ·
        refine j_iconst C0 (v := 0) dX7_floats_125 (by decide) ?_
        exact j_zretE C0 rfl (by rw [vX7_floats, if_pos q1, if_neg q12, if_pos q13]) (by decide) dX7_floats_126 (fun H h => h)
      ·
        refine j_iconst C0 (v := 1) dX7_floats_121 (by decide) ?_
        refine j_goto C0 126 dX7_floats_122 (by decide) ?_
        exact j_zretE C0 rfl (by rw [vX7_floats, if_pos q1, if_neg q12, if_neg q13]) (by decide) dX7_floats_126 (fun H h => h)
/-! ## ordered()I -/
def bX7_ordered_4 (F : Nat → Int32) (G : Nat → Nat → Int32) (j4 : Nat) (v4 : Int32) : Int32 := (if ((G 11) (nI j4).toNatClampNeg) = (-1 : Int32) then ((v4 + (0 : Int32))) else ((v4 + (1 : Int32))))
def vX7_ordered (F : Nat → Int32) (G : Nat → Nat → Int32) : Int32 := (nf (bX7_ordered_4 F G) ((0 : Int32)) ((F 5).toNatClampNeg))
set_option maxRecDepth 100000 in
set_option maxHeartbeats 4000000 in
theorem k_X7_ordered {l : Launch} (hl : l.stackTraces = false) {D : va_G} {Y : Nat → ClassId} {A : Nat → Prop} {E : State → Prop} (ad : Nat → Nat) (F : Nat → Int32) (G : Nat → Nat → Int32)  (hs : ct (F 5) 30) : KM l yX7_ordered cX7_ordered 3 (some .int) D Y A E 0 0 0 0 [.ref (ad 0)] (OR D Y A ad F G) (some (.int (vX7_ordered F G))) (OR D Y A ad F G) := by
  refine KM_of RX7 [(0, .ref (ad 0))] rfl (by decide) hl (Nat.le_of_ble_eq_true rfl) rfl (lok_of rfl rfl) ?_
  intro p e s m args below meth c C0
  have hsc := hs.cl (by decide)
  refine j_iconst C0 (v := 0) dX7_ordered_0 (by decide) ?_
  refine j_istore_n C0 (L' := [(0, .ref (ad 0)), (1, .int ((0 : Int32)))]) dX7_ordered_1 (by decide) rfl ?_
  refine j_iconst C0 (v := 0) dX7_ordered_2 (by decide) ?_
  refine j_istore_n C0 (L' := [(0, .ref (ad 0)), (1, .int ((0 : Int32))), (2, .int ((0 : Int32)))]) dX7_ordered_3 (by decide) rfl ?_
  refine hb_lp (P := fun (j : Nat) (v : Int32) => J p l e _ s m args below meth c A 3 _ (OV D Y A ad (F 0) (F 1) (F 5) (F 18) (F 19) (F 20) (G 2) (G 3) (G 4) (G 6) (G 7) (G 8) (G 9) (G 10) (G 11) (G 12) (G 13) (G 14) (G 15) (G 16) (G 17) (G 21) (G 22) (G 23) (G 24) (G 25)) 0 0 4 [(0, .ref (ad 0)), (1, .int (v)), (2, .int (nI j))] []) (bX7_ordered_4 F G) ((0 : Int32)) ((F 5).toNatClampNeg) ?_ ?_
  ·
    intro j4 hj4 K4
    generalize nf (bX7_ordered_4 F G) ((0 : Int32)) j4 = v4 at K4 ⊢
    show J p l e _ s m args below meth c A 3 _ (OV D Y A ad (F 0) (F 1) (F 5) (F 18) (F 19) (F 20) (G 2) (G 3) (G 4) (G 6) (G 7) (G 8) (G 9) (G 10) (G 11) (G 12) (G 13) (G 14) (G 15) (G 16) (G 17) (G 21) (G 22) (G 23) (G 24) (G 25)) 0 0 4 [(0, .ref (ad 0)), (1, .int (v4)), (2, .int (nI j4))] []
    replace K4 : J p l e _ s m args below meth c A 3 _ (OV D Y A ad (F 0) (F 1) (F 5) (F 18) (F 19) (F 20) (G 2) (G 3) (G 4) (G 6) (G 7) (G 8) (G 9) (G 10) (G 11) (G 12) (G 13) (G 14) (G 15) (G 16) (G 17) (G 21) (G 22) (G 23) (G 24) (G 25)) 0 0 4 [(0, .ref (ad 0)), (1, .int ((bX7_ordered_4 F G j4 v4))), (2, .int (nI (j4 + 1)))] [] := K4
    refine j_iload_n C0 dX7_ordered_4 rfl ?_
    refine j_aload_n C0 dX7_ordered_5 rfl ?_
    refine r_gf_5 C0 (v := (F 5)) dX7_ordered_6 rfl ?_
    refine j_icmp_ge C0 36 dX7_ordered_9 (by decide) (fun z => absurd z (cl_lt rfl hj4)) (fun _ => ?_)
    refine j_iload_n C0 dX7_ordered_12 rfl ?_
    refine j_aload_n C0 dX7_ordered_13 rfl ?_
    refine r_gf_11 C0 dX7_ordered_14 ?_
    refine j_iload_n C0 dX7_ordered_17 rfl ?_
    refine r_ld_11 C0 (v := ((G 11) (nI j4).toNatClampNeg)) (vp_nI (by omega) (by decide)) dX7_ordered_18 rfl ?_
    refine j_iconst C0 (v := -1) dX7_ordered_19 (by decide) ?_
    refine j_icmp_eq C0 27 dX7_ordered_20 (by decide) (fun (q2 : ((G 11) (nI j4).toNatClampNeg) = (-1 : Int32)) => ?_) (fun (q2 : ¬ (((G 11) (nI j4).toNatClampNeg) = (-1 : Int32))) => ?_)
    ·
      refine j_iconst C0 (v := 0) dX7_ordered_27 (by decide) ?_
      refine j_iadd C0 dX7_ordered_28 ?_
      refine j_istore_n C0 (L' := [(0, .ref (ad 0)), (1, .int ((v4 + (0 : Int32)))), (2, .int (nI j4))]) dX7_ordered_29 (by decide) rfl ?_
      refine j_iinc C0 (v := nI (j4 + 1)) (L' := [(0, .ref (ad 0)), (1, .int ((v4 + (0 : Int32)))), (2, .int (nI (j4 + 1)))]) dX7_ordered_30 rfl (nI_inc j4) (by decide) rfl ?_
      refine j_goto C0 4 dX7_ordered_33 (by decide) ?_
      rw [bX7_ordered_4, if_pos q2] at K4
      exact K4
    ·
      refine j_iconst C0 (v := 1) dX7_ordered_23 (by decide) ?_
      refine j_goto C0 28 dX7_ordered_24 (by decide) ?_
      refine j_iadd C0 dX7_ordered_28 ?_
      refine j_istore_n C0 (L' := [(0, .ref (ad 0)), (1, .int ((v4 + (1 : Int32)))), (2, .int (nI j4))]) dX7_ordered_29 (by decide) rfl ?_
      refine j_iinc C0 (v := nI (j4 + 1)) (L' := [(0, .ref (ad 0)), (1, .int ((v4 + (1 : Int32)))), (2, .int (nI (j4 + 1)))]) dX7_ordered_30 rfl (nI_inc j4) (by decide) rfl ?_
      refine j_goto C0 4 dX7_ordered_33 (by decide) ?_
      rw [bX7_ordered_4, if_neg q2] at K4
      exact K4
  ·
    show J p l e _ s m args below meth c A 3 _ (OV D Y A ad (F 0) (F 1) (F 5) (F 18) (F 19) (F 20) (G 2) (G 3) (G 4) (G 6) (G 7) (G 8) (G 9) (G 10) (G 11) (G 12) (G 13) (G 14) (G 15) (G 16) (G 17) (G 21) (G 22) (G 23) (G 24) (G 25)) 0 0 4 [(0, .ref (ad 0)), (1, .int ((nf (bX7_ordered_4 F G) ((0 : Int32)) ((F 5).toNatClampNeg)))), (2, .int (nI (((F 5).toNatClampNeg))))] []
    refine j_iload_n C0 dX7_ordered_4 rfl ?_
    refine j_aload_n C0 dX7_ordered_5 rfl ?_
    refine r_gf_5 C0 (v := (F 5)) dX7_ordered_6 rfl ?_
    refine j_icmp_ge C0 36 dX7_ordered_9 (by decide) (fun _ => ?_) (fun z => absurd (cl_le rfl) z)
    refine j_iload_n C0 dX7_ordered_36 rfl ?_
    exact j_iretE C0 rfl (by rw [vX7_ordered]) dX7_ordered_37 (fun H h => h)
/-! ## isAhead(II)Z -/
def vX7_isAhead (F : Nat → Int32) (G : Nat → Nat → Int32) (a1 : Int32) (a2 : Int32) : Int32 := (if ((G 8) (a1).toNatClampNeg) = ((G 8) (a2).toNatClampNeg) then (if ((G 11) (a1).toNatClampNeg) < ((G 11) (a2).toNatClampNeg) then (1 : Int32) else (if ((G 11) (a1).toNatClampNeg) = ((G 11) (a2).toNatClampNeg) then (if a2 ≤ a1 then (0 : Int32) else (1 : Int32)) else (0 : Int32))) else (if ((G 8) (a1).toNatClampNeg) ≤ ((G 8) (a2).toNatClampNeg) then (0 : Int32) else (1 : Int32)))
set_option maxRecDepth 100000 in
set_option maxHeartbeats 4000000 in
theorem k_X7_isAhead {l : Launch} (hl : l.stackTraces = false) {D : va_G} {Y : Nat → ClassId} {A : Nat → Prop} {E : State → Prop} (ad : Nat → Nat) (F : Nat → Int32) (G : Nat → Nat → Int32) (a1 : Int32) (a2 : Int32) (h1 : vp_in a1 30) (h2 : vp_in a2 30) : KM l yX7_isAhead cX7_isAhead 3 (some .boolean) D Y A E 0 0 0 0 [.ref (ad 0), .int (a1), .int (a2)] (OR D Y A ad F G) (some (.int (vX7_isAhead F G a1 a2))) (OR D Y A ad F G) := by
  refine KM_of RX7 [(0, .ref (ad 0)), (1, .int (a1)), (2, .int (a2))] rfl (by decide) hl (Nat.le_of_ble_eq_true rfl) rfl (lok_of rfl rfl) ?_
  intro p e s m args below meth c C0
  refine j_aload_n C0 dX7_isAhead_0 rfl ?_
  refine r_gf_8 C0 dX7_isAhead_1 ?_
  refine j_iload_n C0 dX7_isAhead_4 rfl ?_
  refine r_ld_8 C0 (v := ((G 8) (a1).toNatClampNeg)) h1 dX7_isAhead_5 rfl ?_
  refine j_aload_n C0 dX7_isAhead_6 rfl ?_
  refine r_gf_8 C0 dX7_isAhead_7 ?_
  refine j_iload_n C0 dX7_isAhead_10 rfl ?_
  refine r_ld_8 C0 (v := ((G 8) (a2).toNatClampNeg)) h2 dX7_isAhead_11 rfl ?_
  refine j_icmp_eq C0 36 dX7_isAhead_12 (by decide) (fun (q1 : ((G 8) (a1).toNatClampNeg) = ((G 8) (a2).toNatClampNeg)) => ?_) (fun (q1 : ¬ (((G 8) (a1).toNatClampNeg) = ((G 8) (a2).toNatClampNeg))) => ?_)
  ·
    refine j_aload_n C0 dX7_isAhead_36 rfl ?_
    refine r_gf_11 C0 dX7_isAhead_37 ?_
    refine j_iload_n C0 dX7_isAhead_40 rfl ?_
    refine r_ld_11 C0 (v := ((G 11) (a1).toNatClampNeg)) h1 dX7_isAhead_41 rfl ?_
    refine j_aload_n C0 dX7_isAhead_42 rfl ?_
    refine r_gf_11 C0 dX7_isAhead_43 ?_
    refine j_iload_n C0 dX7_isAhead_46 rfl ?_
    refine r_ld_11 C0 (v := ((G 11) (a2).toNatClampNeg)) h2 dX7_isAhead_47 rfl ?_
    refine j_icmp_lt C0 71 dX7_isAhead_48 (by decide) (fun (q2 : ((G 11) (a1).toNatClampNeg) < ((G 11) (a2).toNatClampNeg)) => ?_) (fun (q2 : ¬ (((G 11) (a1).toNatClampNeg) < ((G 11) (a2).toNatClampNeg))) => ?_)
    ·
      refine j_iconst C0 (v := 1) dX7_isAhead_71 (by decide) ?_
      refine j_goto C0 76 dX7_isAhead_72 (by decide) ?_
      exact j_zretE C0 rfl (by rw [vX7_isAhead, if_pos q1, if_pos q2]) (by decide) dX7_isAhead_76 (fun H h => h)
    ·
      refine j_aload_n C0 dX7_isAhead_51 rfl ?_
      refine r_gf_11 C0 dX7_isAhead_52 ?_
      refine j_iload_n C0 dX7_isAhead_55 rfl ?_
      refine r_ld_11 C0 (v := ((G 11) (a1).toNatClampNeg)) h1 dX7_isAhead_56 rfl ?_
      refine j_aload_n C0 dX7_isAhead_57 rfl ?_
      refine r_gf_11 C0 dX7_isAhead_58 ?_
      refine j_iload_n C0 dX7_isAhead_61 rfl ?_
      refine r_ld_11 C0 (v := ((G 11) (a2).toNatClampNeg)) h2 dX7_isAhead_62 rfl ?_
      refine j_icmp_ne C0 75 dX7_isAhead_63 (by decide) (fun (q3 : ¬ (((G 11) (a1).toNatClampNeg) = ((G 11) (a2).toNatClampNeg))) => ?_) (fun (q3 : ((G 11) (a1).toNatClampNeg) = ((G 11) (a2).toNatClampNeg)) => ?_)
      ·
        refine j_iconst C0 (v := 0) dX7_isAhead_75 (by decide) ?_
        exact j_zretE C0 rfl (by rw [vX7_isAhead, if_pos q1, if_neg q2, if_neg q3]) (by decide) dX7_isAhead_76 (fun H h => h)
      ·
        refine j_iload_n C0 dX7_isAhead_66 rfl ?_
        refine j_iload_n C0 dX7_isAhead_67 rfl ?_
        refine j_icmp_ge C0 75 dX7_isAhead_68 (by decide) (fun (q4 : a2 ≤ a1) => ?_) (fun (q4 : ¬ (a2 ≤ a1)) => ?_)
        ·
          refine j_iconst C0 (v := 0) dX7_isAhead_75 (by decide) ?_
          exact j_zretE C0 rfl (by rw [vX7_isAhead, if_pos q1, if_neg q2, if_pos q3, if_pos q4]) (by decide) dX7_isAhead_76 (fun H h => h)
        ·
          refine j_iconst C0 (v := 1) dX7_isAhead_71 (by decide) ?_
          refine j_goto C0 76 dX7_isAhead_72 (by decide) ?_
          exact j_zretE C0 rfl (by rw [vX7_isAhead, if_pos q1, if_neg q2, if_pos q3, if_neg q4]) (by decide) dX7_isAhead_76 (fun H h => h)
  ·
    refine j_aload_n C0 dX7_isAhead_15 rfl ?_
    refine r_gf_8 C0 dX7_isAhead_16 ?_
    refine j_iload_n C0 dX7_isAhead_19 rfl ?_
    refine r_ld_8 C0 (v := ((G 8) (a1).toNatClampNeg)) h1 dX7_isAhead_20 rfl ?_
    refine j_aload_n C0 dX7_isAhead_21 rfl ?_
    refine r_gf_8 C0 dX7_isAhead_22 ?_
    refine j_iload_n C0 dX7_isAhead_25 rfl ?_
    refine r_ld_8 C0 (v := ((G 8) (a2).toNatClampNeg)) h2 dX7_isAhead_26 rfl ?_
    refine j_icmp_le C0 34 dX7_isAhead_27 (by decide) (fun (q5 : ((G 8) (a1).toNatClampNeg) ≤ ((G 8) (a2).toNatClampNeg)) => ?_) (fun (q5 : ¬ (((G 8) (a1).toNatClampNeg) ≤ ((G 8) (a2).toNatClampNeg))) => ?_)
    ·
      refine j_iconst C0 (v := 0) dX7_isAhead_34 (by decide) ?_
      exact j_zretE C0 rfl (by rw [vX7_isAhead, if_neg q1, if_pos q5]) (by decide) dX7_isAhead_35 (fun H h => h)
    ·
      refine j_iconst C0 (v := 1) dX7_isAhead_30 (by decide) ?_
      refine j_goto C0 35 dX7_isAhead_31 (by decide) ?_
      exact j_zretE C0 rfl (by rw [vX7_isAhead, if_neg q1, if_neg q5]) (by decide) dX7_isAhead_35 (fun H h => h)
theorem z_X7_isAhead : ∀ F G a1 a2, vX7_isAhead F G a1 a2 = 0 ∨ vX7_isAhead F G a1 a2 = 1 := by
  intro F G a1 a2
  unfold vX7_isAhead
  repeat' split
  all_goals first | exact Or.inl rfl | exact Or.inr rfl
/-! ## isPilotReady(I)Z -/
def bX7_isPilotReady_7 (F : Nat → Int32) (G : Nat → Nat → Int32) (a1 : Int32) (j7 : Nat) (v7 : Int32 × Int32) : Int32 × Int32 := match v7 with | (v7_0, v7_1) => (if v7_0 = 0 then (if ((G 23) (nI j7).toNatClampNeg) = a1 then (if (6 : Int32) ≤ ((F 1) - ((G 21) (nI j7).toNatClampNeg)) then (if (24 : Int32) ≤ ((F 1) - ((G 21) (nI j7).toNatClampNeg)) then ((0 : Int32), (v7_1 + (0 : Int32))) else ((0 : Int32), (v7_1 + (1 : Int32)))) else (if (24 : Int32) ≤ ((F 1) - ((G 21) (nI j7).toNatClampNeg)) then ((1 : Int32), (v7_1 + (0 : Int32))) else ((1 : Int32), (v7_1 + (1 : Int32))))) else ((0 : Int32), (v7_1 + (0 : Int32)))) else (if ((G 23) (nI j7).toNatClampNeg) = a1 then (if (24 : Int32) ≤ ((F 1) - ((G 21) (nI j7).toNatClampNeg)) then ((1 : Int32), (v7_1 + (0 : Int32))) else ((1 : Int32), (v7_1 + (1 : Int32)))) else ((1 : Int32), (v7_1 + (0 : Int32)))))
def vX7_isPilotReady (F : Nat → Int32) (G : Nat → Nat → Int32) (a1 : Int32) : Int32 := (if (nf (bX7_isPilotReady_7 F G a1) ((0 : Int32), (0 : Int32)) ((F 20).toNatClampNeg)).1 = 0 then (if (3 : Int32) ≤ (nf (bX7_isPilotReady_7 F G a1) ((0 : Int32), (0 : Int32)) ((F 20).toNatClampNeg)).2 then (0 : Int32) else (1 : Int32)) else (0 : Int32))
set_option maxRecDepth 100000 in
set_option maxHeartbeats 4000000 in
theorem k_X7_isPilotReady {l : Launch} (hl : l.stackTraces = false) {D : va_G} {Y : Nat → ClassId} {A : Nat → Prop} {E : State → Prop} (ad : Nat → Nat) (F : Nat → Int32) (G : Nat → Nat → Int32) (a1 : Int32) (hm : ct (F 20) 100) : KM l yX7_isPilotReady cX7_isPilotReady 5 (some .boolean) D Y A E 0 0 0 0 [.ref (ad 0), .int (a1)] (OR D Y A ad F G) (some (.int (vX7_isPilotReady F G a1))) (OR D Y A ad F G) := by
  refine KM_of RX7 [(0, .ref (ad 0)), (1, .int (a1))] rfl (by decide) hl (Nat.le_of_ble_eq_true rfl) rfl (lok_of rfl rfl) ?_
  intro p e s m args below meth c C0
  have hmc := hm.cl (by decide)
  refine j_iconst C0 (v := 0) dX7_isPilotReady_0 (by decide) ?_
  refine j_istore_n C0 (L' := [(0, .ref (ad 0)), (1, .int (a1)), (2, .int ((0 : Int32)))]) dX7_isPilotReady_1 (by decide) rfl ?_
  refine j_iconst C0 (v := 0) dX7_isPilotReady_2 (by decide) ?_
  refine j_istore_n C0 (L' := [(0, .ref (ad 0)), (1, .int (a1)), (2, .int ((0 : Int32))), (3, .int ((0 : Int32)))]) dX7_isPilotReady_3 (by decide) rfl ?_
  refine j_iconst C0 (v := 0) dX7_isPilotReady_4 (by decide) ?_
  refine j_istore C0 (L' := [(0, .ref (ad 0)), (1, .int (a1)), (2, .int ((0 : Int32))), (3, .int ((0 : Int32))), (4, .int ((0 : Int32)))]) dX7_isPilotReady_5 (by decide) rfl ?_
  refine hb_lp (P := fun (j : Nat) (v : Int32 × Int32) => J p l e _ s m args below meth c A 5 _ (OV D Y A ad (F 0) (F 1) (F 5) (F 18) (F 19) (F 20) (G 2) (G 3) (G 4) (G 6) (G 7) (G 8) (G 9) (G 10) (G 11) (G 12) (G 13) (G 14) (G 15) (G 16) (G 17) (G 21) (G 22) (G 23) (G 24) (G 25)) 0 0 7 [(0, .ref (ad 0)), (1, .int (a1)), (2, .int (v.1)), (3, .int (v.2)), (4, .int (nI j))] []) (bX7_isPilotReady_7 F G a1) ((0 : Int32), (0 : Int32)) ((F 20).toNatClampNeg) ?_ ?_
  ·
    intro j7 hj7 K7
    generalize nf (bX7_isPilotReady_7 F G a1) ((0 : Int32), (0 : Int32)) j7 = v7 at K7 ⊢
    obtain ⟨v7_0, v7_1⟩ := v7
    show J p l e _ s m args below meth c A 5 _ (OV D Y A ad (F 0) (F 1) (F 5) (F 18) (F 19) (F 20) (G 2) (G 3) (G 4) (G 6) (G 7) (G 8) (G 9) (G 10) (G 11) (G 12) (G 13) (G 14) (G 15) (G 16) (G 17) (G 21) (G 22) (G 23) (G 24) (G 25)) 0 0 7 [(0, .ref (ad 0)), (1, .int (a1)), (2, .int (v7_0)), (3, .int (v7_1)), (4, .int (nI j7))] []
    replace K7 : J p l e _ s m args below meth c A 5 _ (OV D Y A ad (F 0) (F 1) (F 5) (F 18) (F 19) (F 20) (G 2) (G 3) (G 4) (G 6) (G 7) (G 8) (G 9) (G 10) (G 11) (G 12) (G 13) (G 14) (G 15) (G 16) (G 17) (G 21) (G 22) (G 23) (G 24) (G 25)) 0 0 7 [(0, .ref (ad 0)), (1, .int (a1)), (2, .int ((bX7_isPilotReady_7 F G a1 j7 (v7_0, v7_1)).1)), (3, .int ((bX7_isPilotReady_7 F G a1 j7 (v7_0, v7_1)).2)), (4, .int (nI (j7 + 1)))] [] := K7
    refine j_iload C0 dX7_isPilotReady_7 rfl ?_
    refine j_aload_n C0 dX7_isPilotReady_9 rfl ?_
    refine r_gf_20 C0 (v := (F 20)) dX7_isPilotReady_10 rfl ?_
    refine j_icmp_ge C0 96 dX7_isPilotReady_13 (by decide) (fun z => absurd z (cl_lt rfl hj7)) (fun _ => ?_)
    refine j_iload_n C0 dX7_isPilotReady_16 rfl ?_
    refine j_if_ne C0 48 dX7_isPilotReady_17 (by decide) (fun (q2 : ¬ (v7_0 = 0)) => ?_) (fun (q2 : v7_0 = 0) => ?_)
    ·
      refine j_iconst C0 (v := 1) dX7_isPilotReady_48 (by decide) ?_
      refine j_goto C0 53 dX7_isPilotReady_49 (by decide) ?_
      refine j_istore_n C0 (L' := [(0, .ref (ad 0)), (1, .int (a1)), (2, .int ((1 : Int32))), (3, .int (v7_1)), (4, .int (nI j7))]) dX7_isPilotReady_53 (by decide) rfl ?_
      refine j_iload_n C0 dX7_isPilotReady_54 rfl ?_
      refine j_aload_n C0 dX7_isPilotReady_55 rfl ?_
      refine r_gf_23 C0 dX7_isPilotReady_56 ?_
      refine j_iload C0 dX7_isPilotReady_59 rfl ?_
      refine r_ld_23 C0 (v := ((G 23) (nI j7).toNatClampNeg)) (vp_nI (by omega) (by decide)) dX7_isPilotReady_61 rfl ?_
      refine j_iload_n C0 dX7_isPilotReady_62 rfl ?_
      refine j_icmp_ne C0 87 dX7_isPilotReady_63 (by decide) (fun (q3 : ¬ (((G 23) (nI j7).toNatClampNeg) = a1)) => ?_) (fun (q3 : ((G 23) (nI j7).toNatClampNeg) = a1) => ?_)
      ·
        refine j_iconst C0 (v := 0) dX7_isPilotReady_87 (by decide) ?_
        refine j_iadd C0 dX7_isPilotReady_88 ?_
        refine j_istore_n C0 (L' := [(0, .ref (ad 0)), (1, .int (a1)), (2, .int ((1 : Int32))), (3, .int ((v7_1 + (0 : Int32)))), (4, .int (nI j7))]) dX7_isPilotReady_89 (by decide) rfl ?_
        refine j_iinc C0 (v := nI (j7 + 1)) (L' := [(0, .ref (ad 0)), (1, .int (a1)), (2, .int ((1 : Int32))), (3, .int ((v7_1 + (0 : Int32)))), (4, .int (nI (j7 + 1)))]) dX7_isPilotReady_90 rfl (nI_inc j7) (by decide) rfl ?_
        refine j_goto C0 7 dX7_isPilotReady_93 (by decide) ?_
        rw [bX7_isPilotReady_7, if_neg q2, if_neg q3] at K7
        exact K7
      ·
        refine j_aload_n C0 dX7_isPilotReady_66 rfl ?_
        refine r_gf_1 C0 (v := (F 1)) dX7_isPilotReady_67 rfl ?_
        refine j_aload_n C0 dX7_isPilotReady_70 rfl ?_
        refine r_gf_21 C0 dX7_isPilotReady_71 ?_
        refine j_iload C0 dX7_isPilotReady_74 rfl ?_
        refine r_ld_21 C0 (v := ((G 21) (nI j7).toNatClampNeg)) (vp_nI (by omega) (by decide)) dX7_isPilotReady_76 rfl ?_
        refine j_isub C0 dX7_isPilotReady_77 ?_
        refine j_bipush C0 (v := 24) dX7_isPilotReady_78 (by decide) ?_
        refine j_icmp_ge C0 87 dX7_isPilotReady_80 (by decide) (fun (q4 : (24 : Int32) ≤ ((F 1) - ((G 21) (nI j7).toNatClampNeg))) => ?_) (fun (q4 : ¬ ((24 : Int32) ≤ ((F 1) - ((G 21) (nI j7).toNatClampNeg)))) => ?_)
        ·
          refine j_iconst C0 (v := 0) dX7_isPilotReady_87 (by decide) ?_
          refine j_iadd C0 dX7_isPilotReady_88 ?_
          refine j_istore_n C0 (L' := [(0, .ref (ad 0)), (1, .int (a1)), (2, .int ((1 : Int32))), (3, .int ((v7_1 + (0 : Int32)))), (4, .int (nI j7))]) dX7_isPilotReady_89 (by decide) rfl ?_
          refine j_iinc C0 (v := nI (j7 + 1)) (L' := [(0, .ref (ad 0)), (1, .int (a1)), (2, .int ((1 : Int32))), (3, .int ((v7_1 + (0 : Int32)))), (4, .int (nI (j7 + 1)))]) dX7_isPilotReady_90 rfl (nI_inc j7) (by decide) rfl ?_
          refine j_goto C0 7 dX7_isPilotReady_93 (by decide) ?_
          rw [bX7_isPilotReady_7, if_neg q2, if_pos q3, if_pos q4] at K7
          exact K7
        ·
          refine j_iconst C0 (v := 1) dX7_isPilotReady_83 (by decide) ?_
          refine j_goto C0 88 dX7_isPilotReady_84 (by decide) ?_
          refine j_iadd C0 dX7_isPilotReady_88 ?_
          refine j_istore_n C0 (L' := [(0, .ref (ad 0)), (1, .int (a1)), (2, .int ((1 : Int32))), (3, .int ((v7_1 + (1 : Int32)))), (4, .int (nI j7))]) dX7_isPilotReady_89 (by decide) rfl ?_
          refine j_iinc C0 (v := nI (j7 + 1)) (L' := [(0, .ref (ad 0)), (1, .int (a1)), (2, .int ((1 : Int32))), (3, .int ((v7_1 + (1 : Int32)))), (4, .int (nI (j7 + 1)))]) dX7_isPilotReady_90 rfl (nI_inc j7) (by decide) rfl ?_
          refine j_goto C0 7 dX7_isPilotReady_93 (by decide) ?_
          rw [bX7_isPilotReady_7, if_neg q2, if_pos q3, if_neg q4] at K7
          exact K7
    ·
      refine j_aload_n C0 dX7_isPilotReady_20 rfl ?_
      refine r_gf_23 C0 dX7_isPilotReady_21 ?_
      refine j_iload C0 dX7_isPilotReady_24 rfl ?_
      refine r_ld_23 C0 (v := ((G 23) (nI j7).toNatClampNeg)) (vp_nI (by omega) (by decide)) dX7_isPilotReady_26 rfl ?_
      refine j_iload_n C0 dX7_isPilotReady_27 rfl ?_
      refine j_icmp_ne C0 52 dX7_isPilotReady_28 (by decide) (fun (q5 : ¬ (((G 23) (nI j7).toNatClampNeg) = a1)) => ?_) (fun (q5 : ((G 23) (nI j7).toNatClampNeg) = a1) => ?_)
      ·
        refine j_iconst C0 (v := 0) dX7_isPilotReady_52 (by decide) ?_
        refine j_istore_n C0 (L' := [(0, .ref (ad 0)), (1, .int (a1)), (2, .int ((0 : Int32))), (3, .int (v7_1)), (4, .int (nI j7))]) dX7_isPilotReady_53 (by decide) rfl ?_
        refine j_iload_n C0 dX7_isPilotReady_54 rfl ?_
        refine j_aload_n C0 dX7_isPilotReady_55 rfl ?_
        refine r_gf_23 C0 dX7_isPilotReady_56 ?_
        refine j_iload C0 dX7_isPilotReady_59 rfl ?_
        refine r_ld_23 C0 (v := ((G 23) (nI j7).toNatClampNeg)) (vp_nI (by omega) (by decide)) dX7_isPilotReady_61 rfl ?_
        refine j_iload_n C0 dX7_isPilotReady_62 rfl ?_
        refine j_icmp_ne C0 87 dX7_isPilotReady_63 (by decide) (fun _ => ?_) (fun z => absurd z q5)
        refine j_iconst C0 (v := 0) dX7_isPilotReady_87 (by decide) ?_
        refine j_iadd C0 dX7_isPilotReady_88 ?_
        refine j_istore_n C0 (L' := [(0, .ref (ad 0)), (1, .int (a1)), (2, .int ((0 : Int32))), (3, .int ((v7_1 + (0 : Int32)))), (4, .int (nI j7))]) dX7_isPilotReady_89 (by decide) rfl ?_
        refine j_iinc C0 (v := nI (j7 + 1)) (L' := [(0, .ref (ad 0)), (1, .int (a1)), (2, .int ((0 : Int32))), (3, .int ((v7_1 + (0 : Int32)))), (4, .int (nI (j7 + 1)))]) dX7_isPilotReady_90 rfl (nI_inc j7) (by decide) rfl ?_
        refine j_goto C0 7 dX7_isPilotReady_93 (by decide) ?_
        rw [bX7_isPilotReady_7, if_pos q2, if_neg q5] at K7
        exact K7
      ·
        refine j_aload_n C0 dX7_isPilotReady_31 rfl ?_
        refine r_gf_1 C0 (v := (F 1)) dX7_isPilotReady_32 rfl ?_
        refine j_aload_n C0 dX7_isPilotReady_35 rfl ?_
        refine r_gf_21 C0 dX7_isPilotReady_36 ?_
        refine j_iload C0 dX7_isPilotReady_39 rfl ?_
        refine r_ld_21 C0 (v := ((G 21) (nI j7).toNatClampNeg)) (vp_nI (by omega) (by decide)) dX7_isPilotReady_41 rfl ?_
        refine j_isub C0 dX7_isPilotReady_42 ?_
        refine j_bipush C0 (v := 6) dX7_isPilotReady_43 (by decide) ?_
        refine j_icmp_ge C0 52 dX7_isPilotReady_45 (by decide) (fun (q7 : (6 : Int32) ≤ ((F 1) - ((G 21) (nI j7).toNatClampNeg))) => ?_) (fun (q7 : ¬ ((6 : Int32) ≤ ((F 1) - ((G 21) (nI j7).toNatClampNeg)))) => ?_)
        ·
          refine j_iconst C0 (v := 0) dX7_isPilotReady_52 (by decide) ?_
          refine j_istore_n C0 (L' := [(0, .ref (ad 0)), (1, .int (a1)), (2, .int ((0 : Int32))), (3, .int (v7_1)), (4, .int (nI j7))]) dX7_isPilotReady_53 (by decide) rfl ?_
          refine j_iload_n C0 dX7_isPilotReady_54 rfl ?_
          refine j_aload_n C0 dX7_isPilotReady_55 rfl ?_
          refine r_gf_23 C0 dX7_isPilotReady_56 ?_
          refine j_iload C0 dX7_isPilotReady_59 rfl ?_
          refine r_ld_23 C0 (v := ((G 23) (nI j7).toNatClampNeg)) (vp_nI (by omega) (by decide)) dX7_isPilotReady_61 rfl ?_
          refine j_iload_n C0 dX7_isPilotReady_62 rfl ?_
          refine j_icmp_ne C0 87 dX7_isPilotReady_63 (by decide) (fun z => absurd q5 z) (fun _ => ?_)
          refine j_aload_n C0 dX7_isPilotReady_66 rfl ?_
          refine r_gf_1 C0 (v := (F 1)) dX7_isPilotReady_67 rfl ?_
          refine j_aload_n C0 dX7_isPilotReady_70 rfl ?_
          refine r_gf_21 C0 dX7_isPilotReady_71 ?_
          refine j_iload C0 dX7_isPilotReady_74 rfl ?_
          refine r_ld_21 C0 (v := ((G 21) (nI j7).toNatClampNeg)) (vp_nI (by omega) (by decide)) dX7_isPilotReady_76 rfl ?_
          refine j_isub C0 dX7_isPilotReady_77 ?_
          refine j_bipush C0 (v := 24) dX7_isPilotReady_78 (by decide) ?_
          refine j_icmp_ge C0 87 dX7_isPilotReady_80 (by decide) (fun (q9 : (24 : Int32) ≤ ((F 1) - ((G 21) (nI j7).toNatClampNeg))) => ?_) (fun (q9 : ¬ ((24 : Int32) ≤ ((F 1) - ((G 21) (nI j7).toNatClampNeg)))) => ?_)
          ·
            refine j_iconst C0 (v := 0) dX7_isPilotReady_87 (by decide) ?_
            refine j_iadd C0 dX7_isPilotReady_88 ?_
            refine j_istore_n C0 (L' := [(0, .ref (ad 0)), (1, .int (a1)), (2, .int ((0 : Int32))), (3, .int ((v7_1 + (0 : Int32)))), (4, .int (nI j7))]) dX7_isPilotReady_89 (by decide) rfl ?_
            refine j_iinc C0 (v := nI (j7 + 1)) (L' := [(0, .ref (ad 0)), (1, .int (a1)), (2, .int ((0 : Int32))), (3, .int ((v7_1 + (0 : Int32)))), (4, .int (nI (j7 + 1)))]) dX7_isPilotReady_90 rfl (nI_inc j7) (by decide) rfl ?_
            refine j_goto C0 7 dX7_isPilotReady_93 (by decide) ?_
            rw [bX7_isPilotReady_7, if_pos q2, if_pos q5, if_pos q7, if_pos q9] at K7
            exact K7
          ·
            refine j_iconst C0 (v := 1) dX7_isPilotReady_83 (by decide) ?_
            refine j_goto C0 88 dX7_isPilotReady_84 (by decide) ?_
            refine j_iadd C0 dX7_isPilotReady_88 ?_
            refine j_istore_n C0 (L' := [(0, .ref (ad 0)), (1, .int (a1)), (2, .int ((0 : Int32))), (3, .int ((v7_1 + (1 : Int32)))), (4, .int (nI j7))]) dX7_isPilotReady_89 (by decide) rfl ?_
            refine j_iinc C0 (v := nI (j7 + 1)) (L' := [(0, .ref (ad 0)), (1, .int (a1)), (2, .int ((0 : Int32))), (3, .int ((v7_1 + (1 : Int32)))), (4, .int (nI (j7 + 1)))]) dX7_isPilotReady_90 rfl (nI_inc j7) (by decide) rfl ?_
            refine j_goto C0 7 dX7_isPilotReady_93 (by decide) ?_
            rw [bX7_isPilotReady_7, if_pos q2, if_pos q5, if_pos q7, if_neg q9] at K7
            exact K7
        ·
          refine j_iconst C0 (v := 1) dX7_isPilotReady_48 (by decide) ?_
          refine j_goto C0 53 dX7_isPilotReady_49 (by decide) ?_
          refine j_istore_n C0 (L' := [(0, .ref (ad 0)), (1, .int (a1)), (2, .int ((1 : Int32))), (3, .int (v7_1)), (4, .int (nI j7))]) dX7_isPilotReady_53 (by decide) rfl ?_
          refine j_iload_n C0 dX7_isPilotReady_54 rfl ?_
          refine j_aload_n C0 dX7_isPilotReady_55 rfl ?_
          refine r_gf_23 C0 dX7_isPilotReady_56 ?_
          refine j_iload C0 dX7_isPilotReady_59 rfl ?_
          refine r_ld_23 C0 (v := ((G 23) (nI j7).toNatClampNeg)) (vp_nI (by omega) (by decide)) dX7_isPilotReady_61 rfl ?_
          refine j_iload_n C0 dX7_isPilotReady_62 rfl ?_
          refine j_icmp_ne C0 87 dX7_isPilotReady_63 (by decide) (fun z => absurd q5 z) (fun _ => ?_)
          refine j_aload_n C0 dX7_isPilotReady_66 rfl ?_
          refine r_gf_1 C0 (v := (F 1)) dX7_isPilotReady_67 rfl ?_
          refine j_aload_n C0 dX7_isPilotReady_70 rfl ?_
          refine r_gf_21 C0 dX7_isPilotReady_71 ?_
          refine j_iload C0 dX7_isPilotReady_74 rfl ?_
          refine r_ld_21 C0 (v := ((G 21) (nI j7).toNatClampNeg)) (vp_nI (by omega) (by decide)) dX7_isPilotReady_76 rfl ?_
          refine j_isub C0 dX7_isPilotReady_77 ?_
          refine j_bipush C0 (v := 24) dX7_isPilotReady_78 (by decide) ?_
          refine j_icmp_ge C0 87 dX7_isPilotReady_80 (by decide) (fun (q11 : (24 : Int32) ≤ ((F 1) - ((G 21) (nI j7).toNatClampNeg))) => ?_) (fun (q11 : ¬ ((24 : Int32) ≤ ((F 1) - ((G 21) (nI j7).toNatClampNeg)))) => ?_)
          ·
            refine j_iconst C0 (v := 0) dX7_isPilotReady_87 (by decide) ?_
            refine j_iadd C0 dX7_isPilotReady_88 ?_
            refine j_istore_n C0 (L' := [(0, .ref (ad 0)), (1, .int (a1)), (2, .int ((1 : Int32))), (3, .int ((v7_1 + (0 : Int32)))), (4, .int (nI j7))]) dX7_isPilotReady_89 (by decide) rfl ?_
            refine j_iinc C0 (v := nI (j7 + 1)) (L' := [(0, .ref (ad 0)), (1, .int (a1)), (2, .int ((1 : Int32))), (3, .int ((v7_1 + (0 : Int32)))), (4, .int (nI (j7 + 1)))]) dX7_isPilotReady_90 rfl (nI_inc j7) (by decide) rfl ?_
            refine j_goto C0 7 dX7_isPilotReady_93 (by decide) ?_
            rw [bX7_isPilotReady_7, if_pos q2, if_pos q5, if_neg q7, if_pos q11] at K7
            exact K7
          ·
            refine j_iconst C0 (v := 1) dX7_isPilotReady_83 (by decide) ?_
            refine j_goto C0 88 dX7_isPilotReady_84 (by decide) ?_
            refine j_iadd C0 dX7_isPilotReady_88 ?_
            refine j_istore_n C0 (L' := [(0, .ref (ad 0)), (1, .int (a1)), (2, .int ((1 : Int32))), (3, .int ((v7_1 + (1 : Int32)))), (4, .int (nI j7))]) dX7_isPilotReady_89 (by decide) rfl ?_
            refine j_iinc C0 (v := nI (j7 + 1)) (L' := [(0, .ref (ad 0)), (1, .int (a1)), (2, .int ((1 : Int32))), (3, .int ((v7_1 + (1 : Int32)))), (4, .int (nI (j7 + 1)))]) dX7_isPilotReady_90 rfl (nI_inc j7) (by decide) rfl ?_
            refine j_goto C0 7 dX7_isPilotReady_93 (by decide) ?_
            rw [bX7_isPilotReady_7, if_pos q2, if_pos q5, if_neg q7, if_neg q11] at K7
            exact K7
  ·
    show J p l e _ s m args below meth c A 5 _ (OV D Y A ad (F 0) (F 1) (F 5) (F 18) (F 19) (F 20) (G 2) (G 3) (G 4) (G 6) (G 7) (G 8) (G 9) (G 10) (G 11) (G 12) (G 13) (G 14) (G 15) (G 16) (G 17) (G 21) (G 22) (G 23) (G 24) (G 25)) 0 0 7 [(0, .ref (ad 0)), (1, .int (a1)), (2, .int ((nf (bX7_isPilotReady_7 F G a1) ((0 : Int32), (0 : Int32)) ((F 20).toNatClampNeg)).1)), (3, .int ((nf (bX7_isPilotReady_7 F G a1) ((0 : Int32), (0 : Int32)) ((F 20).toNatClampNeg)).2)), (4, .int (nI (((F 20).toNatClampNeg))))] []
    refine j_iload C0 dX7_isPilotReady_7 rfl ?_
    refine j_aload_n C0 dX7_isPilotReady_9 rfl ?_
    refine r_gf_20 C0 (v := (F 20)) dX7_isPilotReady_10 rfl ?_
    refine j_icmp_ge C0 96 dX7_isPilotReady_13 (by decide) (fun _ => ?_) (fun z => absurd (cl_le rfl) z)
    refine j_iload_n C0 dX7_isPilotReady_96 rfl ?_
    refine j_if_ne C0 109 dX7_isPilotReady_97 (by decide) (fun (q13 : ¬ ((nf (bX7_isPilotReady_7 F G a1) ((0 : Int32), (0 : Int32)) ((F 20).toNatClampNeg)).1 = 0)) => ?_) (fun (q13 : (nf (bX7_isPilotReady_7 F G a1) ((0 : Int32), (0 : Int32)) ((F 20).toNatClampNeg)).1 = 0) => ?_)
    ·
      refine j_iconst C0 (v := 0) dX7_isPilotReady_109 (by decide) ?_
      exact j_zretE C0 rfl (by rw [vX7_isPilotReady, if_neg q13]) (by decide) dX7_isPilotReady_110 (fun H h => h)
    ·
      refine j_iload_n C0 dX7_isPilotReady_100 rfl ?_
      refine j_iconst C0 (v := 3) dX7_isPilotReady_101 (by decide) ?_
      refine j_icmp_ge C0 109 dX7_isPilotReady_102 (by decide) (fun (q14 : (3 : Int32) ≤ (nf (bX7_isPilotReady_7 F G a1) ((0 : Int32), (0 : Int32)) ((F 20).toNatClampNeg)).2) => ?_) (fun (q14 : ¬ ((3 : Int32) ≤ (nf (bX7_isPilotReady_7 F G a1) ((0 : Int32), (0 : Int32)) ((F 20).toNatClampNeg)).2)) => ?_)
      ·
        refine j_iconst C0 (v := 0) dX7_isPilotReady_109 (by decide) ?_
        exact j_zretE C0 rfl (by rw [vX7_isPilotReady, if_pos q13, if_pos q14]) (by decide) dX7_isPilotReady_110 (fun H h => h)
      ·
        refine j_iconst C0 (v := 1) dX7_isPilotReady_105 (by decide) ?_
        refine j_goto C0 110 dX7_isPilotReady_106 (by decide) ?_
        exact j_zretE C0 rfl (by rw [vX7_isPilotReady, if_pos q13, if_neg q14]) (by decide) dX7_isPilotReady_110 (fun H h => h)
theorem z_X7_isPilotReady : ∀ F G a1, vX7_isPilotReady F G a1 = 0 ∨ vX7_isPilotReady F G a1 = 1 := by
  intro F G a1
  unfold vX7_isPilotReady
  repeat' split
  all_goals first | exact Or.inl rfl | exact Or.inr rfl
/-! ## tugsNow()I -/
def bX7_tugsNow_33 (F : Nat → Int32) (G : Nat → Nat → Int32) (j4 : Nat) (v4 : Int32) (j33 : Nat) (v33 : Int32) : Int32 := (if v33 = 0 then ((0 : Int32)) else (if ((((G 24) (nI j33).toNatClampNeg) >>> (nI j4 &&& 31)) &&& (1 : Int32)) = 0 then ((1 : Int32)) else (if ((F 1) - ((G 21) (nI j33).toNatClampNeg)) < (3 : Int32) then ((0 : Int32)) else ((1 : Int32)))))
def bX7_tugsNow_4 (F : Nat → Int32) (G : Nat → Nat → Int32) (j4 : Nat) (v4 : Int32) : Int32 := (if ((((F 1) / (8 : Int32)) + nI j4) - (((F 1) / (8 : Int32)) + nI j4) / (3 : Int32) * (3 : Int32)) = 0 then (if (nf (bX7_tugsNow_33 F G j4 v4) ((0 : Int32)) ((F 20).toNatClampNeg)) = 0 then ((v4 ||| (0 : Int32))) else ((v4 ||| ((1 : Int32) <<< (nI j4 &&& 31))))) else (if (nf (bX7_tugsNow_33 F G j4 v4) ((1 : Int32)) ((F 20).toNatClampNeg)) = 0 then ((v4 ||| (0 : Int32))) else ((v4 ||| ((1 : Int32) <<< (nI j4 &&& 31))))))
def vX7_tugsNow (F : Nat → Int32) (G : Nat → Nat → Int32) : Int32 := (nf (bX7_tugsNow_4 F G) ((0 : Int32)) (6))
set_option maxRecDepth 100000 in
set_option maxHeartbeats 4000000 in
theorem k_X7_tugsNow {l : Launch} (hl : l.stackTraces = false) {D : va_G} {Y : Nat → ClassId} {A : Nat → Prop} {E : State → Prop} (ad : Nat → Nat) (F : Nat → Int32) (G : Nat → Nat → Int32)  (hm : ct (F 20) 100) : KM l yX7_tugsNow cX7_tugsNow 5 (some .int) D Y A E 0 0 0 0 [.ref (ad 0)] (OR D Y A ad F G) (some (.int (vX7_tugsNow F G))) (OR D Y A ad F G) := by
  refine KM_of RX7 [(0, .ref (ad 0))] rfl (by decide) hl (Nat.le_of_ble_eq_true rfl) rfl (lok_of rfl rfl) ?_
  intro p e s m args below meth c C0
  have hmc := hm.cl (by decide)
  refine j_iconst C0 (v := 0) dX7_tugsNow_0 (by decide) ?_
  refine j_istore_n C0 (L' := [(0, .ref (ad 0)), (1, .int ((0 : Int32)))]) dX7_tugsNow_1 (by decide) rfl ?_
  refine j_iconst C0 (v := 0) dX7_tugsNow_2 (by decide) ?_
  refine j_istore_n C0 (L' := [(0, .ref (ad 0)), (1, .int ((0 : Int32))), (2, .int ((0 : Int32)))]) dX7_tugsNow_3 (by decide) rfl ?_
  refine hb_lp (P := fun (j : Nat) (v : Int32) => J p l e _ s m args below meth c A 5 _ (OV D Y A ad (F 0) (F 1) (F 5) (F 18) (F 19) (F 20) (G 2) (G 3) (G 4) (G 6) (G 7) (G 8) (G 9) (G 10) (G 11) (G 12) (G 13) (G 14) (G 15) (G 16) (G 17) (G 21) (G 22) (G 23) (G 24) (G 25)) 0 0 4 [(0, .ref (ad 0)), (1, .int (v)), (2, .int (nI j))] []) (bX7_tugsNow_4 F G) ((0 : Int32)) (6) ?_ ?_
  ·
    intro j4 hj4 K4
    generalize nf (bX7_tugsNow_4 F G) ((0 : Int32)) j4 = v4 at K4 ⊢
    show J p l e _ s m args below meth c A 5 _ (OV D Y A ad (F 0) (F 1) (F 5) (F 18) (F 19) (F 20) (G 2) (G 3) (G 4) (G 6) (G 7) (G 8) (G 9) (G 10) (G 11) (G 12) (G 13) (G 14) (G 15) (G 16) (G 17) (G 21) (G 22) (G 23) (G 24) (G 25)) 0 0 4 [(0, .ref (ad 0)), (1, .int (v4)), (2, .int (nI j4))] []
    replace K4 : J p l e _ s m args below meth c A 5 _ (OV D Y A ad (F 0) (F 1) (F 5) (F 18) (F 19) (F 20) (G 2) (G 3) (G 4) (G 6) (G 7) (G 8) (G 9) (G 10) (G 11) (G 12) (G 13) (G 14) (G 15) (G 16) (G 17) (G 21) (G 22) (G 23) (G 24) (G 25)) 0 0 4 [(0, .ref (ad 0)), (1, .int ((bX7_tugsNow_4 F G j4 v4))), (2, .int (nI (j4 + 1)))] [] := K4
    refine j_iload_n C0 dX7_tugsNow_4 rfl ?_
    refine j_bipush C0 (v := 6) dX7_tugsNow_5 (by decide) ?_
    refine j_icmp_ge C0 108 dX7_tugsNow_7 (by decide) (fun z => absurd z (cl_lt (show (6 : Int32).toNatClampNeg = 6 by decide +kernel) hj4)) (fun _ => ?_)
    refine j_aload_n C0 dX7_tugsNow_10 rfl ?_
    refine r_gf_1 C0 (v := (F 1)) dX7_tugsNow_11 rfl ?_
    refine j_bipush C0 (v := 8) dX7_tugsNow_14 (by decide) ?_
    refine j_idiv C0 dX7_tugsNow_16 (by decide) ?_
    refine j_iload_n C0 dX7_tugsNow_17 rfl ?_
    refine j_iadd C0 dX7_tugsNow_18 ?_
    refine j_iconst C0 (v := 3) dX7_tugsNow_19 (by decide) ?_
    refine j_irem C0 dX7_tugsNow_20 (by decide) ?_
    refine j_if_eq C0 28 dX7_tugsNow_21 (by decide) (fun (q2 : ((((F 1) / (8 : Int32)) + nI j4) - (((F 1) / (8 : Int32)) + nI j4) / (3 : Int32) * (3 : Int32)) = 0) => ?_) (fun (q2 : ¬ (((((F 1) / (8 : Int32)) + nI j4) - (((F 1) / (8 : Int32)) + nI j4) / (3 : Int32) * (3 : Int32)) = 0)) => ?_)
    ·
      refine j_iconst C0 (v := 0) dX7_tugsNow_28 (by decide) ?_
      refine j_istore_n C0 (L' := [(0, .ref (ad 0)), (1, .int (v4)), (2, .int (nI j4)), (3, .int ((0 : Int32)))]) dX7_tugsNow_29 (by decide) rfl ?_
      refine j_iconst C0 (v := 0) dX7_tugsNow_30 (by decide) ?_
      refine j_istore C0 (L' := [(0, .ref (ad 0)), (1, .int (v4)), (2, .int (nI j4)), (3, .int ((0 : Int32))), (4, .int ((0 : Int32)))]) dX7_tugsNow_31 (by decide) rfl ?_
      refine hb_lp (P := fun (j : Nat) (v : Int32) => J p l e _ s m args below meth c A 5 _ (OV D Y A ad (F 0) (F 1) (F 5) (F 18) (F 19) (F 20) (G 2) (G 3) (G 4) (G 6) (G 7) (G 8) (G 9) (G 10) (G 11) (G 12) (G 13) (G 14) (G 15) (G 16) (G 17) (G 21) (G 22) (G 23) (G 24) (G 25)) 0 0 33 [(0, .ref (ad 0)), (1, .int (v4)), (2, .int (nI j4)), (3, .int (v)), (4, .int (nI j))] []) (bX7_tugsNow_33 F G j4 v4) ((0 : Int32)) ((F 20).toNatClampNeg) ?_ ?_
      ·
        intro j33 hj33 K33
        generalize nf (bX7_tugsNow_33 F G j4 v4) ((0 : Int32)) j33 = v33 at K33 ⊢
        show J p l e _ s m args below meth c A 5 _ (OV D Y A ad (F 0) (F 1) (F 5) (F 18) (F 19) (F 20) (G 2) (G 3) (G 4) (G 6) (G 7) (G 8) (G 9) (G 10) (G 11) (G 12) (G 13) (G 14) (G 15) (G 16) (G 17) (G 21) (G 22) (G 23) (G 24) (G 25)) 0 0 33 [(0, .ref (ad 0)), (1, .int (v4)), (2, .int (nI j4)), (3, .int (v33)), (4, .int (nI j33))] []
        replace K33 : J p l e _ s m args below meth c A 5 _ (OV D Y A ad (F 0) (F 1) (F 5) (F 18) (F 19) (F 20) (G 2) (G 3) (G 4) (G 6) (G 7) (G 8) (G 9) (G 10) (G 11) (G 12) (G 13) (G 14) (G 15) (G 16) (G 17) (G 21) (G 22) (G 23) (G 24) (G 25)) 0 0 33 [(0, .ref (ad 0)), (1, .int (v4)), (2, .int (nI j4)), (3, .int ((bX7_tugsNow_33 F G j4 v4 j33 v33))), (4, .int (nI (j33 + 1)))] [] := K33
        refine j_iload C0 dX7_tugsNow_33 rfl ?_
        refine j_aload_n C0 dX7_tugsNow_35 rfl ?_
        refine r_gf_20 C0 (v := (F 20)) dX7_tugsNow_36 rfl ?_
        refine j_icmp_ge C0 88 dX7_tugsNow_39 (by decide) (fun z => absurd z (cl_lt rfl hj33)) (fun _ => ?_)
        refine j_iload_n C0 dX7_tugsNow_42 rfl ?_
        refine j_if_eq C0 80 dX7_tugsNow_43 (by decide) (fun (q4 : v33 = 0) => ?_) (fun (q4 : ¬ (v33 = 0)) => ?_)
        ·
          refine j_iconst C0 (v := 0) dX7_tugsNow_80 (by decide) ?_
          refine j_istore_n C0 (L' := [(0, .ref (ad 0)), (1, .int (v4)), (2, .int (nI j4)), (3, .int ((0 : Int32))), (4, .int (nI j33))]) dX7_tugsNow_81 (by decide) rfl ?_
          refine j_iinc C0 (v := nI (j33 + 1)) (L' := [(0, .ref (ad 0)), (1, .int (v4)), (2, .int (nI j4)), (3, .int ((0 : Int32))), (4, .int (nI (j33 + 1)))]) dX7_tugsNow_82 rfl (nI_inc j33) (by decide) rfl ?_
          refine j_goto C0 33 dX7_tugsNow_85 (by decide) ?_
          rw [bX7_tugsNow_33, if_pos q4] at K33
          exact K33
        ·
          refine j_aload_n C0 dX7_tugsNow_46 rfl ?_
          refine r_gf_24 C0 dX7_tugsNow_47 ?_
          refine j_iload C0 dX7_tugsNow_50 rfl ?_
          refine r_ld_24 C0 (v := ((G 24) (nI j33).toNatClampNeg)) (vp_nI (by omega) (by decide)) dX7_tugsNow_52 rfl ?_
          refine j_iload_n C0 dX7_tugsNow_53 rfl ?_
          refine j_ishr C0 dX7_tugsNow_54 ?_
          refine j_iconst C0 (v := 1) dX7_tugsNow_55 (by decide) ?_
          refine j_iand C0 dX7_tugsNow_56 ?_
          refine j_if_eq C0 76 dX7_tugsNow_57 (by decide) (fun (q5 : ((((G 24) (nI j33).toNatClampNeg) >>> (nI j4 &&& 31)) &&& (1 : Int32)) = 0) => ?_) (fun (q5 : ¬ (((((G 24) (nI j33).toNatClampNeg) >>> (nI j4 &&& 31)) &&& (1 : Int32)) = 0)) => ?_)
          ·
            refine j_iconst C0 (v := 1) dX7_tugsNow_76 (by decide) ?_
            refine j_goto C0 81 dX7_tugsNow_77 (by decide) ?_
            refine j_istore_n C0 (L' := [(0, .ref (ad 0)), (1, .int (v4)), (2, .int (nI j4)), (3, .int ((1 : Int32))), (4, .int (nI j33))]) dX7_tugsNow_81 (by decide) rfl ?_
            refine j_iinc C0 (v := nI (j33 + 1)) (L' := [(0, .ref (ad 0)), (1, .int (v4)), (2, .int (nI j4)), (3, .int ((1 : Int32))), (4, .int (nI (j33 + 1)))]) dX7_tugsNow_82 rfl (nI_inc j33) (by decide) rfl ?_
            refine j_goto C0 33 dX7_tugsNow_85 (by decide) ?_
            rw [bX7_tugsNow_33, if_neg q4, if_pos q5] at K33
            exact K33
          ·
            refine j_aload_n C0 dX7_tugsNow_60 rfl ?_
            refine r_gf_1 C0 (v := (F 1)) dX7_tugsNow_61 rfl ?_
            refine j_aload_n C0 dX7_tugsNow_64 rfl ?_
            refine r_gf_21 C0 dX7_tugsNow_65 ?_
            refine j_iload C0 dX7_tugsNow_68 rfl ?_
            refine r_ld_21 C0 (v := ((G 21) (nI j33).toNatClampNeg)) (vp_nI (by omega) (by decide)) dX7_tugsNow_70 rfl ?_
            refine j_isub C0 dX7_tugsNow_71 ?_
            refine j_iconst C0 (v := 3) dX7_tugsNow_72 (by decide) ?_
            refine j_icmp_lt C0 80 dX7_tugsNow_73 (by decide) (fun (q6 : ((F 1) - ((G 21) (nI j33).toNatClampNeg)) < (3 : Int32)) => ?_) (fun (q6 : ¬ (((F 1) - ((G 21) (nI j33).toNatClampNeg)) < (3 : Int32))) => ?_)
            ·
              refine j_iconst C0 (v := 0) dX7_tugsNow_80 (by decide) ?_
              refine j_istore_n C0 (L' := [(0, .ref (ad 0)), (1, .int (v4)), (2, .int (nI j4)), (3, .int ((0 : Int32))), (4, .int (nI j33))]) dX7_tugsNow_81 (by decide) rfl ?_
              refine j_iinc C0 (v := nI (j33 + 1)) (L' := [(0, .ref (ad 0)), (1, .int (v4)), (2, .int (nI j4)), (3, .int ((0 : Int32))), (4, .int (nI (j33 + 1)))]) dX7_tugsNow_82 rfl (nI_inc j33) (by decide) rfl ?_
              refine j_goto C0 33 dX7_tugsNow_85 (by decide) ?_
              rw [bX7_tugsNow_33, if_neg q4, if_neg q5, if_pos q6] at K33
              exact K33
            ·
              refine j_iconst C0 (v := 1) dX7_tugsNow_76 (by decide) ?_
              refine j_goto C0 81 dX7_tugsNow_77 (by decide) ?_
              refine j_istore_n C0 (L' := [(0, .ref (ad 0)), (1, .int (v4)), (2, .int (nI j4)), (3, .int ((1 : Int32))), (4, .int (nI j33))]) dX7_tugsNow_81 (by decide) rfl ?_
              refine j_iinc C0 (v := nI (j33 + 1)) (L' := [(0, .ref (ad 0)), (1, .int (v4)), (2, .int (nI j4)), (3, .int ((1 : Int32))), (4, .int (nI (j33 + 1)))]) dX7_tugsNow_82 rfl (nI_inc j33) (by decide) rfl ?_
              refine j_goto C0 33 dX7_tugsNow_85 (by decide) ?_
              rw [bX7_tugsNow_33, if_neg q4, if_neg q5, if_neg q6] at K33
              exact K33
      ·
        show J p l e _ s m args below meth c A 5 _ (OV D Y A ad (F 0) (F 1) (F 5) (F 18) (F 19) (F 20) (G 2) (G 3) (G 4) (G 6) (G 7) (G 8) (G 9) (G 10) (G 11) (G 12) (G 13) (G 14) (G 15) (G 16) (G 17) (G 21) (G 22) (G 23) (G 24) (G 25)) 0 0 33 [(0, .ref (ad 0)), (1, .int (v4)), (2, .int (nI j4)), (3, .int ((nf (bX7_tugsNow_33 F G j4 v4) ((0 : Int32)) ((F 20).toNatClampNeg)))), (4, .int (nI (((F 20).toNatClampNeg))))] []
        refine j_iload C0 dX7_tugsNow_33 rfl ?_
        refine j_aload_n C0 dX7_tugsNow_35 rfl ?_
        refine r_gf_20 C0 (v := (F 20)) dX7_tugsNow_36 rfl ?_
        refine j_icmp_ge C0 88 dX7_tugsNow_39 (by decide) (fun _ => ?_) (fun z => absurd (cl_le rfl) z)
        refine j_iload_n C0 dX7_tugsNow_88 rfl ?_
        refine j_iload_n C0 dX7_tugsNow_89 rfl ?_
        refine j_if_eq C0 99 dX7_tugsNow_90 (by decide) (fun (q8 : (nf (bX7_tugsNow_33 F G j4 v4) ((0 : Int32)) ((F 20).toNatClampNeg)) = 0) => ?_) (fun (q8 : ¬ ((nf (bX7_tugsNow_33 F G j4 v4) ((0 : Int32)) ((F 20).toNatClampNeg)) = 0)) => ?_)
        ·
          refine j_iconst C0 (v := 0) dX7_tugsNow_99 (by decide) ?_
          refine j_ior C0 dX7_tugsNow_100 ?_
          refine j_istore_n C0 (L' := [(0, .ref (ad 0)), (1, .int ((v4 ||| (0 : Int32)))), (2, .int (nI j4)), (3, .int ((nf (bX7_tugsNow_33 F G j4 v4) ((0 : Int32)) ((F 20).toNatClampNeg)))), (4, .int (nI (((F 20).toNatClampNeg))))]) dX7_tugsNow_101 (by decide) rfl ?_
          refine j_iinc C0 (v := nI (j4 + 1)) (L' := [(0, .ref (ad 0)), (1, .int ((v4 ||| (0 : Int32)))), (2, .int (nI (j4 + 1))), (3, .int ((nf (bX7_tugsNow_33 F G j4 v4) ((0 : Int32)) ((F 20).toNatClampNeg)))), (4, .int (nI (((F 20).toNatClampNeg))))]) dX7_tugsNow_102 rfl (nI_inc j4) (by decide) rfl ?_
          refine j_goto C0 4 dX7_tugsNow_105 (by decide) ?_
          rw [bX7_tugsNow_4, if_pos q2, if_pos q8] at K4
          refine j_locals (L' := [(0, .ref (ad 0)), (1, .int ((v4 ||| (0 : Int32)))), (2, .int (nI (j4 + 1)))]) (fun q hq => by simp only [List.mem_cons, List.mem_nil_iff, or_false] at hq ⊢; rcases hq with rfl | rfl | rfl <;> simp) (lok_of rfl rfl) ?_
          exact K4
        ·
          refine j_iconst C0 (v := 1) dX7_tugsNow_93 (by decide) ?_
          refine j_iload_n C0 dX7_tugsNow_94 rfl ?_
          refine j_ishl C0 dX7_tugsNow_95 ?_
          refine j_goto C0 100 dX7_tugsNow_96 (by decide) ?_
          refine j_ior C0 dX7_tugsNow_100 ?_
          refine j_istore_n C0 (L' := [(0, .ref (ad 0)), (1, .int ((v4 ||| ((1 : Int32) <<< (nI j4 &&& 31))))), (2, .int (nI j4)), (3, .int ((nf (bX7_tugsNow_33 F G j4 v4) ((0 : Int32)) ((F 20).toNatClampNeg)))), (4, .int (nI (((F 20).toNatClampNeg))))]) dX7_tugsNow_101 (by decide) rfl ?_
          refine j_iinc C0 (v := nI (j4 + 1)) (L' := [(0, .ref (ad 0)), (1, .int ((v4 ||| ((1 : Int32) <<< (nI j4 &&& 31))))), (2, .int (nI (j4 + 1))), (3, .int ((nf (bX7_tugsNow_33 F G j4 v4) ((0 : Int32)) ((F 20).toNatClampNeg)))), (4, .int (nI (((F 20).toNatClampNeg))))]) dX7_tugsNow_102 rfl (nI_inc j4) (by decide) rfl ?_
          refine j_goto C0 4 dX7_tugsNow_105 (by decide) ?_
          rw [bX7_tugsNow_4, if_pos q2, if_neg q8] at K4
          refine j_locals (L' := [(0, .ref (ad 0)), (1, .int ((v4 ||| ((1 : Int32) <<< (nI j4 &&& 31))))), (2, .int (nI (j4 + 1)))]) (fun q hq => by simp only [List.mem_cons, List.mem_nil_iff, or_false] at hq ⊢; rcases hq with rfl | rfl | rfl <;> simp) (lok_of rfl rfl) ?_
          exact K4
    ·
      refine j_iconst C0 (v := 1) dX7_tugsNow_24 (by decide) ?_
      refine j_goto C0 29 dX7_tugsNow_25 (by decide) ?_
      refine j_istore_n C0 (L' := [(0, .ref (ad 0)), (1, .int (v4)), (2, .int (nI j4)), (3, .int ((1 : Int32)))]) dX7_tugsNow_29 (by decide) rfl ?_
      refine j_iconst C0 (v := 0) dX7_tugsNow_30 (by decide) ?_
      refine j_istore C0 (L' := [(0, .ref (ad 0)), (1, .int (v4)), (2, .int (nI j4)), (3, .int ((1 : Int32))), (4, .int ((0 : Int32)))]) dX7_tugsNow_31 (by decide) rfl ?_
      refine hb_lp (P := fun (j : Nat) (v : Int32) => J p l e _ s m args below meth c A 5 _ (OV D Y A ad (F 0) (F 1) (F 5) (F 18) (F 19) (F 20) (G 2) (G 3) (G 4) (G 6) (G 7) (G 8) (G 9) (G 10) (G 11) (G 12) (G 13) (G 14) (G 15) (G 16) (G 17) (G 21) (G 22) (G 23) (G 24) (G 25)) 0 0 33 [(0, .ref (ad 0)), (1, .int (v4)), (2, .int (nI j4)), (3, .int (v)), (4, .int (nI j))] []) (bX7_tugsNow_33 F G j4 v4) ((1 : Int32)) ((F 20).toNatClampNeg) ?_ ?_
      ·
        intro j33 hj33 K33
        generalize nf (bX7_tugsNow_33 F G j4 v4) ((1 : Int32)) j33 = v33 at K33 ⊢
        show J p l e _ s m args below meth c A 5 _ (OV D Y A ad (F 0) (F 1) (F 5) (F 18) (F 19) (F 20) (G 2) (G 3) (G 4) (G 6) (G 7) (G 8) (G 9) (G 10) (G 11) (G 12) (G 13) (G 14) (G 15) (G 16) (G 17) (G 21) (G 22) (G 23) (G 24) (G 25)) 0 0 33 [(0, .ref (ad 0)), (1, .int (v4)), (2, .int (nI j4)), (3, .int (v33)), (4, .int (nI j33))] []
        replace K33 : J p l e _ s m args below meth c A 5 _ (OV D Y A ad (F 0) (F 1) (F 5) (F 18) (F 19) (F 20) (G 2) (G 3) (G 4) (G 6) (G 7) (G 8) (G 9) (G 10) (G 11) (G 12) (G 13) (G 14) (G 15) (G 16) (G 17) (G 21) (G 22) (G 23) (G 24) (G 25)) 0 0 33 [(0, .ref (ad 0)), (1, .int (v4)), (2, .int (nI j4)), (3, .int ((bX7_tugsNow_33 F G j4 v4 j33 v33))), (4, .int (nI (j33 + 1)))] [] := K33
        refine j_iload C0 dX7_tugsNow_33 rfl ?_
        refine j_aload_n C0 dX7_tugsNow_35 rfl ?_
        refine r_gf_20 C0 (v := (F 20)) dX7_tugsNow_36 rfl ?_
        refine j_icmp_ge C0 88 dX7_tugsNow_39 (by decide) (fun z => absurd z (cl_lt rfl hj33)) (fun _ => ?_)
        refine j_iload_n C0 dX7_tugsNow_42 rfl ?_
        refine j_if_eq C0 80 dX7_tugsNow_43 (by decide) (fun (q10 : v33 = 0) => ?_) (fun (q10 : ¬ (v33 = 0)) => ?_)
        ·
          refine j_iconst C0 (v := 0) dX7_tugsNow_80 (by decide) ?_
          refine j_istore_n C0 (L' := [(0, .ref (ad 0)), (1, .int (v4)), (2, .int (nI j4)), (3, .int ((0 : Int32))), (4, .int (nI j33))]) dX7_tugsNow_81 (by decide) rfl ?_
          refine j_iinc C0 (v := nI (j33 + 1)) (L' := [(0, .ref (ad 0)), (1, .int (v4)), (2, .int (nI j4)), (3, .int ((0 : Int32))), (4, .int (nI (j33 + 1)))]) dX7_tugsNow_82 rfl (nI_inc j33) (by decide) rfl ?_
          refine j_goto C0 33 dX7_tugsNow_85 (by decide) ?_
          rw [bX7_tugsNow_33, if_pos q10] at K33
          exact K33
        ·
          refine j_aload_n C0 dX7_tugsNow_46 rfl ?_
          refine r_gf_24 C0 dX7_tugsNow_47 ?_
          refine j_iload C0 dX7_tugsNow_50 rfl ?_
          refine r_ld_24 C0 (v := ((G 24) (nI j33).toNatClampNeg)) (vp_nI (by omega) (by decide)) dX7_tugsNow_52 rfl ?_
          refine j_iload_n C0 dX7_tugsNow_53 rfl ?_
          refine j_ishr C0 dX7_tugsNow_54 ?_
          refine j_iconst C0 (v := 1) dX7_tugsNow_55 (by decide) ?_
          refine j_iand C0 dX7_tugsNow_56 ?_
          refine j_if_eq C0 76 dX7_tugsNow_57 (by decide) (fun (q11 : ((((G 24) (nI j33).toNatClampNeg) >>> (nI j4 &&& 31)) &&& (1 : Int32)) = 0) => ?_) (fun (q11 : ¬ (((((G 24) (nI j33).toNatClampNeg) >>> (nI j4 &&& 31)) &&& (1 : Int32)) = 0)) => ?_)
          ·
            refine j_iconst C0 (v := 1) dX7_tugsNow_76 (by decide) ?_
            refine j_goto C0 81 dX7_tugsNow_77 (by decide) ?_
            refine j_istore_n C0 (L' := [(0, .ref (ad 0)), (1, .int (v4)), (2, .int (nI j4)), (3, .int ((1 : Int32))), (4, .int (nI j33))]) dX7_tugsNow_81 (by decide) rfl ?_
            refine j_iinc C0 (v := nI (j33 + 1)) (L' := [(0, .ref (ad 0)), (1, .int (v4)), (2, .int (nI j4)), (3, .int ((1 : Int32))), (4, .int (nI (j33 + 1)))]) dX7_tugsNow_82 rfl (nI_inc j33) (by decide) rfl ?_
            refine j_goto C0 33 dX7_tugsNow_85 (by decide) ?_
            rw [bX7_tugsNow_33, if_neg q10, if_pos q11] at K33
            exact K33
          ·
            refine j_aload_n C0 dX7_tugsNow_60 rfl ?_
            refine r_gf_1 C0 (v := (F 1)) dX7_tugsNow_61 rfl ?_
            refine j_aload_n C0 dX7_tugsNow_64 rfl ?_
            refine r_gf_21 C0 dX7_tugsNow_65 ?_
            refine j_iload C0 dX7_tugsNow_68 rfl ?_
            refine r_ld_21 C0 (v := ((G 21) (nI j33).toNatClampNeg)) (vp_nI (by omega) (by decide)) dX7_tugsNow_70 rfl ?_
            refine j_isub C0 dX7_tugsNow_71 ?_
            refine j_iconst C0 (v := 3) dX7_tugsNow_72 (by decide) ?_
            refine j_icmp_lt C0 80 dX7_tugsNow_73 (by decide) (fun (q12 : ((F 1) - ((G 21) (nI j33).toNatClampNeg)) < (3 : Int32)) => ?_) (fun (q12 : ¬ (((F 1) - ((G 21) (nI j33).toNatClampNeg)) < (3 : Int32))) => ?_)
            ·
              refine j_iconst C0 (v := 0) dX7_tugsNow_80 (by decide) ?_
              refine j_istore_n C0 (L' := [(0, .ref (ad 0)), (1, .int (v4)), (2, .int (nI j4)), (3, .int ((0 : Int32))), (4, .int (nI j33))]) dX7_tugsNow_81 (by decide) rfl ?_
              refine j_iinc C0 (v := nI (j33 + 1)) (L' := [(0, .ref (ad 0)), (1, .int (v4)), (2, .int (nI j4)), (3, .int ((0 : Int32))), (4, .int (nI (j33 + 1)))]) dX7_tugsNow_82 rfl (nI_inc j33) (by decide) rfl ?_
              refine j_goto C0 33 dX7_tugsNow_85 (by decide) ?_
              rw [bX7_tugsNow_33, if_neg q10, if_neg q11, if_pos q12] at K33
              exact K33
            ·
              refine j_iconst C0 (v := 1) dX7_tugsNow_76 (by decide) ?_
              refine j_goto C0 81 dX7_tugsNow_77 (by decide) ?_
              refine j_istore_n C0 (L' := [(0, .ref (ad 0)), (1, .int (v4)), (2, .int (nI j4)), (3, .int ((1 : Int32))), (4, .int (nI j33))]) dX7_tugsNow_81 (by decide) rfl ?_
              refine j_iinc C0 (v := nI (j33 + 1)) (L' := [(0, .ref (ad 0)), (1, .int (v4)), (2, .int (nI j4)), (3, .int ((1 : Int32))), (4, .int (nI (j33 + 1)))]) dX7_tugsNow_82 rfl (nI_inc j33) (by decide) rfl ?_
              refine j_goto C0 33 dX7_tugsNow_85 (by decide) ?_
              rw [bX7_tugsNow_33, if_neg q10, if_neg q11, if_neg q12] at K33
              exact K33
      ·
        show J p l e _ s m args below meth c A 5 _ (OV D Y A ad (F 0) (F 1) (F 5) (F 18) (F 19) (F 20) (G 2) (G 3) (G 4) (G 6) (G 7) (G 8) (G 9) (G 10) (G 11) (G 12) (G 13) (G 14) (G 15) (G 16) (G 17) (G 21) (G 22) (G 23) (G 24) (G 25)) 0 0 33 [(0, .ref (ad 0)), (1, .int (v4)), (2, .int (nI j4)), (3, .int ((nf (bX7_tugsNow_33 F G j4 v4) ((1 : Int32)) ((F 20).toNatClampNeg)))), (4, .int (nI (((F 20).toNatClampNeg))))] []
        refine j_iload C0 dX7_tugsNow_33 rfl ?_
        refine j_aload_n C0 dX7_tugsNow_35 rfl ?_
        refine r_gf_20 C0 (v := (F 20)) dX7_tugsNow_36 rfl ?_
        refine j_icmp_ge C0 88 dX7_tugsNow_39 (by decide) (fun _ => ?_) (fun z => absurd (cl_le rfl) z)
        refine j_iload_n C0 dX7_tugsNow_88 rfl ?_
        refine j_iload_n C0 dX7_tugsNow_89 rfl ?_
        refine j_if_eq C0 99 dX7_tugsNow_90 (by decide) (fun (q14 : (nf (bX7_tugsNow_33 F G j4 v4) ((1 : Int32)) ((F 20).toNatClampNeg)) = 0) => ?_) (fun (q14 : ¬ ((nf (bX7_tugsNow_33 F G j4 v4) ((1 : Int32)) ((F 20).toNatClampNeg)) = 0)) => ?_)
        ·
          refine j_iconst C0 (v := 0) dX7_tugsNow_99 (by decide) ?_
          refine j_ior C0 dX7_tugsNow_100 ?_
          refine j_istore_n C0 (L' := [(0, .ref (ad 0)), (1, .int ((v4 ||| (0 : Int32)))), (2, .int (nI j4)), (3, .int ((nf (bX7_tugsNow_33 F G j4 v4) ((1 : Int32)) ((F 20).toNatClampNeg)))), (4, .int (nI (((F 20).toNatClampNeg))))]) dX7_tugsNow_101 (by decide) rfl ?_
          refine j_iinc C0 (v := nI (j4 + 1)) (L' := [(0, .ref (ad 0)), (1, .int ((v4 ||| (0 : Int32)))), (2, .int (nI (j4 + 1))), (3, .int ((nf (bX7_tugsNow_33 F G j4 v4) ((1 : Int32)) ((F 20).toNatClampNeg)))), (4, .int (nI (((F 20).toNatClampNeg))))]) dX7_tugsNow_102 rfl (nI_inc j4) (by decide) rfl ?_
          refine j_goto C0 4 dX7_tugsNow_105 (by decide) ?_
          rw [bX7_tugsNow_4, if_neg q2, if_pos q14] at K4
          refine j_locals (L' := [(0, .ref (ad 0)), (1, .int ((v4 ||| (0 : Int32)))), (2, .int (nI (j4 + 1)))]) (fun q hq => by simp only [List.mem_cons, List.mem_nil_iff, or_false] at hq ⊢; rcases hq with rfl | rfl | rfl <;> simp) (lok_of rfl rfl) ?_
          exact K4
        ·
          refine j_iconst C0 (v := 1) dX7_tugsNow_93 (by decide) ?_
          refine j_iload_n C0 dX7_tugsNow_94 rfl ?_
          refine j_ishl C0 dX7_tugsNow_95 ?_
          refine j_goto C0 100 dX7_tugsNow_96 (by decide) ?_
          refine j_ior C0 dX7_tugsNow_100 ?_
          refine j_istore_n C0 (L' := [(0, .ref (ad 0)), (1, .int ((v4 ||| ((1 : Int32) <<< (nI j4 &&& 31))))), (2, .int (nI j4)), (3, .int ((nf (bX7_tugsNow_33 F G j4 v4) ((1 : Int32)) ((F 20).toNatClampNeg)))), (4, .int (nI (((F 20).toNatClampNeg))))]) dX7_tugsNow_101 (by decide) rfl ?_
          refine j_iinc C0 (v := nI (j4 + 1)) (L' := [(0, .ref (ad 0)), (1, .int ((v4 ||| ((1 : Int32) <<< (nI j4 &&& 31))))), (2, .int (nI (j4 + 1))), (3, .int ((nf (bX7_tugsNow_33 F G j4 v4) ((1 : Int32)) ((F 20).toNatClampNeg)))), (4, .int (nI (((F 20).toNatClampNeg))))]) dX7_tugsNow_102 rfl (nI_inc j4) (by decide) rfl ?_
          refine j_goto C0 4 dX7_tugsNow_105 (by decide) ?_
          rw [bX7_tugsNow_4, if_neg q2, if_neg q14] at K4
          refine j_locals (L' := [(0, .ref (ad 0)), (1, .int ((v4 ||| ((1 : Int32) <<< (nI j4 &&& 31))))), (2, .int (nI (j4 + 1)))]) (fun q hq => by simp only [List.mem_cons, List.mem_nil_iff, or_false] at hq ⊢; rcases hq with rfl | rfl | rfl <;> simp) (lok_of rfl rfl) ?_
          exact K4
  ·
    show J p l e _ s m args below meth c A 5 _ (OV D Y A ad (F 0) (F 1) (F 5) (F 18) (F 19) (F 20) (G 2) (G 3) (G 4) (G 6) (G 7) (G 8) (G 9) (G 10) (G 11) (G 12) (G 13) (G 14) (G 15) (G 16) (G 17) (G 21) (G 22) (G 23) (G 24) (G 25)) 0 0 4 [(0, .ref (ad 0)), (1, .int ((nf (bX7_tugsNow_4 F G) ((0 : Int32)) (6)))), (2, .int (nI ((6))))] []
    refine j_iload_n C0 dX7_tugsNow_4 rfl ?_
    refine j_bipush C0 (v := 6) dX7_tugsNow_5 (by decide) ?_
    refine j_icmp_ge C0 108 dX7_tugsNow_7 (by decide) (fun _ => ?_) (fun z => absurd (cl_le (show (6 : Int32).toNatClampNeg = 6 by decide +kernel)) z)
    refine j_iload_n C0 dX7_tugsNow_108 rfl ?_
    exact j_iretE C0 rfl (by rw [vX7_tugsNow]) dX7_tugsNow_109 (fun H h => h)
/-! ## firstReady()I -/
theorem dn_inc (j : Nat) : (5 : Int32) - nI j + Int32.ofInt (-1) = 5 - nI (j + 1) := by
  rw [nI_succ, Int32.sub_eq_add_neg, Int32.sub_eq_add_neg, Int32.neg_add, show Int32.ofInt (-1) = -1 by decide, Int32.sub_eq_add_neg (-nI j) 1, Int32.add_assoc]
theorem dn_eq {j : Nat} (h : j < 6) : (5 : Int32) - nI j = nI (5 - j) := by
  rw [show (5 : Int32) = nI 5 from rfl]
  exact pk_sub (by omega)
theorem dn_pos {j : Nat} (h : j < 6) : ¬ (5 : Int32) - nI j < 0 := by rw [dn_eq h]; exact nI_pos (by omega)
theorem dn_in {j : Nat} (h : j < 6) : vp_in ((5 : Int32) - nI j) 6 := by rw [dn_eq h]; exact vp_in_nI (by omega) (by decide)
def bX7_firstReady_4 (F : Nat → Int32) (G : Nat → Nat → Int32) (j4 : Nat) (v4 : Int32) : Int32 := (if (vX7_isPilotReady F G (((G 16) (((5 : Int32) - nI (j4))).toNatClampNeg))) = 0 then (v4) else (((5 : Int32) - nI (j4))))
def vX7_firstReady (F : Nat → Int32) (G : Nat → Nat → Int32) : Int32 := (nf (bX7_firstReady_4 F G) ((-1 : Int32)) (6))
set_option maxRecDepth 100000 in
set_option maxHeartbeats 4000000 in
theorem k_X7_firstReady {l : Launch} (hl : l.stackTraces = false) {D : va_G} {Y : Nat → ClassId} {A : Nat → Prop} {E : State → Prop} (ad : Nat → Nat) (F : Nat → Int32) (G : Nat → Nat → Int32)  (hm : ct (F 20) 100) : KM l yX7_firstReady cX7_firstReady 3 (some .int) D Y A E 1 24 0 0 [.ref (ad 0)] (OR D Y A ad F G) (some (.int (vX7_firstReady F G))) (OR D Y A ad F G) := by
  refine KM_of RX7 [(0, .ref (ad 0))] rfl (by decide) hl (Nat.le_of_ble_eq_true rfl) rfl (lok_of rfl rfl) ?_
  intro p e s m args below meth c C0
  refine j_iconst C0 (v := -1) dX7_firstReady_0 (by decide) ?_
  refine j_istore_n C0 (L' := [(0, .ref (ad 0)), (1, .int ((-1 : Int32)))]) dX7_firstReady_1 (by decide) rfl ?_
  refine j_iconst C0 (v := 5) dX7_firstReady_2 (by decide) ?_
  refine j_istore_n C0 (L' := [(0, .ref (ad 0)), (1, .int ((-1 : Int32))), (2, .int ((5 : Int32)))]) dX7_firstReady_3 (by decide) rfl ?_
  refine hb_lp (P := fun (j : Nat) (v : Int32) => J p l e _ s m args below meth c A 3 _ (OV D Y A ad (F 0) (F 1) (F 5) (F 18) (F 19) (F 20) (G 2) (G 3) (G 4) (G 6) (G 7) (G 8) (G 9) (G 10) (G 11) (G 12) (G 13) (G 14) (G 15) (G 16) (G 17) (G 21) (G 22) (G 23) (G 24) (G 25)) 0 0 4 [(0, .ref (ad 0)), (1, .int (v)), (2, .int (((5 : Int32) - nI (j))))] []) (bX7_firstReady_4 F G) ((-1 : Int32)) (6) ?_ ?_
  ·
    intro j4 hj4 K4
    generalize nf (bX7_firstReady_4 F G) ((-1 : Int32)) j4 = v4 at K4 ⊢
    show J p l e _ s m args below meth c A 3 _ (OV D Y A ad (F 0) (F 1) (F 5) (F 18) (F 19) (F 20) (G 2) (G 3) (G 4) (G 6) (G 7) (G 8) (G 9) (G 10) (G 11) (G 12) (G 13) (G 14) (G 15) (G 16) (G 17) (G 21) (G 22) (G 23) (G 24) (G 25)) 0 0 4 [(0, .ref (ad 0)), (1, .int (v4)), (2, .int (((5 : Int32) - nI (j4))))] []
    replace K4 : J p l e _ s m args below meth c A 3 _ (OV D Y A ad (F 0) (F 1) (F 5) (F 18) (F 19) (F 20) (G 2) (G 3) (G 4) (G 6) (G 7) (G 8) (G 9) (G 10) (G 11) (G 12) (G 13) (G 14) (G 15) (G 16) (G 17) (G 21) (G 22) (G 23) (G 24) (G 25)) 0 0 4 [(0, .ref (ad 0)), (1, .int ((bX7_firstReady_4 F G j4 v4))), (2, .int (((5 : Int32) - nI (j4 + 1))))] [] := K4
    refine j_iload_n C0 dX7_firstReady_4 rfl ?_
    refine j_if_lt C0 33 dX7_firstReady_5 (by decide) (fun z => absurd z (dn_pos (by omega))) (fun _ => ?_)
    refine j_aload_n C0 dX7_firstReady_8 rfl ?_
    refine j_aload_n C0 dX7_firstReady_9 rfl ?_
    refine r_gf_16 C0 dX7_firstReady_10 ?_
    refine j_iload_n C0 dX7_firstReady_13 rfl ?_
    refine r_ld_16 C0 (v := ((G 16) (((5 : Int32) - nI (j4))).toNatClampNeg)) (dn_in (by omega)) dX7_firstReady_14 rfl ?_
    refine j_callVv C0 (k_X7_isPilotReady hl ad F G (((G 16) (((5 : Int32) - nI (j4))).toNatClampNeg)) hm) mv_X7_isPilotReady wm_X7_113 (r_recv C0) rfl rfl ⟨Nat.le_of_ble_eq_true rfl, Nat.le_of_ble_eq_true rfl⟩ (Nat.le_of_ble_eq_true rfl) ⟨Nat.le_refl _, Nat.le_refl _⟩ dX7_firstReady_15 ?_
    refine j_if_eq C0 25 dX7_firstReady_18 (by decide) (fun (q2 : (vX7_isPilotReady F G (((G 16) (((5 : Int32) - nI (j4))).toNatClampNeg))) = 0) => ?_) (fun (q2 : ¬ ((vX7_isPilotReady F G (((G 16) (((5 : Int32) - nI (j4))).toNatClampNeg))) = 0)) => ?_)
    ·
      refine j_iload_n C0 dX7_firstReady_25 rfl ?_
      refine j_istore_n C0 (L' := [(0, .ref (ad 0)), (1, .int (v4)), (2, .int (((5 : Int32) - nI (j4))))]) dX7_firstReady_26 (by decide) rfl ?_
      refine j_iinc C0 (v := ((5 : Int32) - nI (j4 + 1))) (L' := [(0, .ref (ad 0)), (1, .int (v4)), (2, .int (((5 : Int32) - nI (j4 + 1))))]) dX7_firstReady_27 rfl (dn_inc j4) (by decide) rfl ?_
      refine j_goto C0 4 dX7_firstReady_30 (by decide) ?_
      rw [bX7_firstReady_4, if_pos q2] at K4
      exact K4
    ·
      refine j_iload_n C0 dX7_firstReady_21 rfl ?_
      refine j_goto C0 26 dX7_firstReady_22 (by decide) ?_
      refine j_istore_n C0 (L' := [(0, .ref (ad 0)), (1, .int (((5 : Int32) - nI (j4)))), (2, .int (((5 : Int32) - nI (j4))))]) dX7_firstReady_26 (by decide) rfl ?_
      refine j_iinc C0 (v := ((5 : Int32) - nI (j4 + 1))) (L' := [(0, .ref (ad 0)), (1, .int (((5 : Int32) - nI (j4)))), (2, .int (((5 : Int32) - nI (j4 + 1))))]) dX7_firstReady_27 rfl (dn_inc j4) (by decide) rfl ?_
      refine j_goto C0 4 dX7_firstReady_30 (by decide) ?_
      rw [bX7_firstReady_4, if_neg q2] at K4
      exact K4
  ·
    show J p l e _ s m args below meth c A 3 _ (OV D Y A ad (F 0) (F 1) (F 5) (F 18) (F 19) (F 20) (G 2) (G 3) (G 4) (G 6) (G 7) (G 8) (G 9) (G 10) (G 11) (G 12) (G 13) (G 14) (G 15) (G 16) (G 17) (G 21) (G 22) (G 23) (G 24) (G 25)) 0 0 4 [(0, .ref (ad 0)), (1, .int ((nf (bX7_firstReady_4 F G) ((-1 : Int32)) (6)))), (2, .int (((5 : Int32) - nI ((6)))))] []
    refine j_iload_n C0 dX7_firstReady_4 rfl ?_
    refine j_if_lt C0 33 dX7_firstReady_5 (by decide) (fun _ => ?_) (fun z => absurd (by decide +kernel) z)
    refine j_iload_n C0 dX7_firstReady_33 rfl ?_
    exact j_iretE C0 rfl (by rw [vX7_firstReady]) dX7_firstReady_34 (fun H h => h)
/-! ## placeOf(I)I -/
def bX7_placeOf_4 (F : Nat → Int32) (G : Nat → Nat → Int32) (a1 : Int32) (j4 : Nat) (v4 : Int32) : Int32 := (if ((G 16) (nI j4).toNatClampNeg) = a1 then (nI j4) else (v4))
def vX7_placeOf (F : Nat → Int32) (G : Nat → Nat → Int32) (a1 : Int32) : Int32 := (nf (bX7_placeOf_4 F G a1) ((-1 : Int32)) (6))
set_option maxRecDepth 100000 in
set_option maxHeartbeats 4000000 in
theorem k_X7_placeOf {l : Launch} (hl : l.stackTraces = false) {D : va_G} {Y : Nat → ClassId} {A : Nat → Prop} {E : State → Prop} (ad : Nat → Nat) (F : Nat → Int32) (G : Nat → Nat → Int32) (a1 : Int32)  : KM l yX7_placeOf cX7_placeOf 4 (some .int) D Y A E 0 0 0 0 [.ref (ad 0), .int (a1)] (OR D Y A ad F G) (some (.int (vX7_placeOf F G a1))) (OR D Y A ad F G) := by
  refine KM_of RX7 [(0, .ref (ad 0)), (1, .int (a1))] rfl (by decide) hl (Nat.le_of_ble_eq_true rfl) rfl (lok_of rfl rfl) ?_
  intro p e s m args below meth c C0
  refine j_iconst C0 (v := -1) dX7_placeOf_0 (by decide) ?_
  refine j_istore_n C0 (L' := [(0, .ref (ad 0)), (1, .int (a1)), (2, .int ((-1 : Int32)))]) dX7_placeOf_1 (by decide) rfl ?_
  refine j_iconst C0 (v := 0) dX7_placeOf_2 (by decide) ?_
  refine j_istore_n C0 (L' := [(0, .ref (ad 0)), (1, .int (a1)), (2, .int ((-1 : Int32))), (3, .int ((0 : Int32)))]) dX7_placeOf_3 (by decide) rfl ?_
  refine hb_lp (P := fun (j : Nat) (v : Int32) => J p l e _ s m args below meth c A 4 _ (OV D Y A ad (F 0) (F 1) (F 5) (F 18) (F 19) (F 20) (G 2) (G 3) (G 4) (G 6) (G 7) (G 8) (G 9) (G 10) (G 11) (G 12) (G 13) (G 14) (G 15) (G 16) (G 17) (G 21) (G 22) (G 23) (G 24) (G 25)) 0 0 4 [(0, .ref (ad 0)), (1, .int (a1)), (2, .int (v)), (3, .int (nI j))] []) (bX7_placeOf_4 F G a1) ((-1 : Int32)) (6) ?_ ?_
  ·
    intro j4 hj4 K4
    generalize nf (bX7_placeOf_4 F G a1) ((-1 : Int32)) j4 = v4 at K4 ⊢
    show J p l e _ s m args below meth c A 4 _ (OV D Y A ad (F 0) (F 1) (F 5) (F 18) (F 19) (F 20) (G 2) (G 3) (G 4) (G 6) (G 7) (G 8) (G 9) (G 10) (G 11) (G 12) (G 13) (G 14) (G 15) (G 16) (G 17) (G 21) (G 22) (G 23) (G 24) (G 25)) 0 0 4 [(0, .ref (ad 0)), (1, .int (a1)), (2, .int (v4)), (3, .int (nI j4))] []
    replace K4 : J p l e _ s m args below meth c A 4 _ (OV D Y A ad (F 0) (F 1) (F 5) (F 18) (F 19) (F 20) (G 2) (G 3) (G 4) (G 6) (G 7) (G 8) (G 9) (G 10) (G 11) (G 12) (G 13) (G 14) (G 15) (G 16) (G 17) (G 21) (G 22) (G 23) (G 24) (G 25)) 0 0 4 [(0, .ref (ad 0)), (1, .int (a1)), (2, .int ((bX7_placeOf_4 F G a1 j4 v4))), (3, .int (nI (j4 + 1)))] [] := K4
    refine j_iload_n C0 dX7_placeOf_4 rfl ?_
    refine j_bipush C0 (v := 6) dX7_placeOf_5 (by decide) ?_
    refine j_icmp_ge C0 32 dX7_placeOf_7 (by decide) (fun z => absurd z (cl_lt (show (6 : Int32).toNatClampNeg = 6 by decide +kernel) hj4)) (fun _ => ?_)
    refine j_aload_n C0 dX7_placeOf_10 rfl ?_
    refine r_gf_16 C0 dX7_placeOf_11 ?_
    refine j_iload_n C0 dX7_placeOf_14 rfl ?_
    refine r_ld_16 C0 (v := ((G 16) (nI j4).toNatClampNeg)) (vp_nI (by omega) (by decide)) dX7_placeOf_15 rfl ?_
    refine j_iload_n C0 dX7_placeOf_16 rfl ?_
    refine j_icmp_ne C0 24 dX7_placeOf_17 (by decide) (fun (q2 : ¬ (((G 16) (nI j4).toNatClampNeg) = a1)) => ?_) (fun (q2 : ((G 16) (nI j4).toNatClampNeg) = a1) => ?_)
    ·
      refine j_iload_n C0 dX7_placeOf_24 rfl ?_
      refine j_istore_n C0 (L' := [(0, .ref (ad 0)), (1, .int (a1)), (2, .int (v4)), (3, .int (nI j4))]) dX7_placeOf_25 (by decide) rfl ?_
      refine j_iinc C0 (v := nI (j4 + 1)) (L' := [(0, .ref (ad 0)), (1, .int (a1)), (2, .int (v4)), (3, .int (nI (j4 + 1)))]) dX7_placeOf_26 rfl (nI_inc j4) (by decide) rfl ?_
      refine j_goto C0 4 dX7_placeOf_29 (by decide) ?_
      rw [bX7_placeOf_4, if_neg q2] at K4
      exact K4
    ·
      refine j_iload_n C0 dX7_placeOf_20 rfl ?_
      refine j_goto C0 25 dX7_placeOf_21 (by decide) ?_
      refine j_istore_n C0 (L' := [(0, .ref (ad 0)), (1, .int (a1)), (2, .int (nI j4)), (3, .int (nI j4))]) dX7_placeOf_25 (by decide) rfl ?_
      refine j_iinc C0 (v := nI (j4 + 1)) (L' := [(0, .ref (ad 0)), (1, .int (a1)), (2, .int (nI j4)), (3, .int (nI (j4 + 1)))]) dX7_placeOf_26 rfl (nI_inc j4) (by decide) rfl ?_
      refine j_goto C0 4 dX7_placeOf_29 (by decide) ?_
      rw [bX7_placeOf_4, if_pos q2] at K4
      exact K4
  ·
    show J p l e _ s m args below meth c A 4 _ (OV D Y A ad (F 0) (F 1) (F 5) (F 18) (F 19) (F 20) (G 2) (G 3) (G 4) (G 6) (G 7) (G 8) (G 9) (G 10) (G 11) (G 12) (G 13) (G 14) (G 15) (G 16) (G 17) (G 21) (G 22) (G 23) (G 24) (G 25)) 0 0 4 [(0, .ref (ad 0)), (1, .int (a1)), (2, .int ((nf (bX7_placeOf_4 F G a1) ((-1 : Int32)) (6)))), (3, .int (nI ((6))))] []
    refine j_iload_n C0 dX7_placeOf_4 rfl ?_
    refine j_bipush C0 (v := 6) dX7_placeOf_5 (by decide) ?_
    refine j_icmp_ge C0 32 dX7_placeOf_7 (by decide) (fun _ => ?_) (fun z => absurd (cl_le (show (6 : Int32).toNatClampNeg = 6 by decide +kernel)) z)
    refine j_iload_n C0 dX7_placeOf_32 rfl ?_
    exact j_iretE C0 rfl (by rw [vX7_placeOf]) dX7_placeOf_33 (fun H h => h)
/-! ## isFree(I)Z -/
def bX7_isFree_4 (F : Nat → Int32) (G : Nat → Nat → Int32) (a1 : Int32) (j4 : Nat) (v4 : Int32) : Int32 := (if v4 = 0 then ((0 : Int32)) else (if ((G 9) (nI j4).toNatClampNeg) = a1 then (if ((G 10) (nI j4).toNatClampNeg) = 0 then ((1 : Int32)) else (if ((G 10) (nI j4).toNatClampNeg) = (4 : Int32) then ((1 : Int32)) else ((0 : Int32)))) else ((1 : Int32))))
def vX7_isFree (F : Nat → Int32) (G : Nat → Nat → Int32) (a1 : Int32) : Int32 := (nf (bX7_isFree_4 F G a1) ((1 : Int32)) ((F 5).toNatClampNeg))
theorem z_X7_isFree (F : Nat → Int32) (G : Nat → Nat → Int32) (a1 : Int32) (N : Nat) : nf (bX7_isFree_4 F G a1) (1 : Int32) N = 0 ∨ nf (bX7_isFree_4 F G a1) (1 : Int32) N = 1 := by
  induction N with
  | zero => exact Or.inr rfl
  | succ n ih =>
    rw [nf, bX7_isFree_4]
    repeat' split
    all_goals first | exact Or.inl rfl | exact Or.inr rfl | exact ih
set_option maxRecDepth 100000 in
set_option maxHeartbeats 4000000 in
theorem k_X7_isFree {l : Launch} (hl : l.stackTraces = false) {D : va_G} {Y : Nat → ClassId} {A : Nat → Prop} {E : State → Prop} (ad : Nat → Nat) (F : Nat → Int32) (G : Nat → Nat → Int32) (a1 : Int32) (hs : ct (F 5) 30) : KM l yX7_isFree cX7_isFree 4 (some .boolean) D Y A E 0 0 0 0 [.ref (ad 0), .int (a1)] (OR D Y A ad F G) (some (.int (vX7_isFree F G a1))) (OR D Y A ad F G) := by
  refine KM_of RX7 [(0, .ref (ad 0)), (1, .int (a1))] rfl (by decide) hl (Nat.le_of_ble_eq_true rfl) rfl (lok_of rfl rfl) ?_
  intro p e s m args below meth c C0
  have hsc := hs.cl (by decide)
  refine j_iconst C0 (v := 1) dX7_isFree_0 (by decide) ?_
  refine j_istore_n C0 (L' := [(0, .ref (ad 0)), (1, .int (a1)), (2, .int ((1 : Int32)))]) dX7_isFree_1 (by decide) rfl ?_
  refine j_iconst C0 (v := 0) dX7_isFree_2 (by decide) ?_
  refine j_istore_n C0 (L' := [(0, .ref (ad 0)), (1, .int (a1)), (2, .int ((1 : Int32))), (3, .int ((0 : Int32)))]) dX7_isFree_3 (by decide) rfl ?_
  refine hb_lp (P := fun (j : Nat) (v : Int32) => J p l e _ s m args below meth c A 4 _ (OV D Y A ad (F 0) (F 1) (F 5) (F 18) (F 19) (F 20) (G 2) (G 3) (G 4) (G 6) (G 7) (G 8) (G 9) (G 10) (G 11) (G 12) (G 13) (G 14) (G 15) (G 16) (G 17) (G 21) (G 22) (G 23) (G 24) (G 25)) 0 0 4 [(0, .ref (ad 0)), (1, .int (a1)), (2, .int (v)), (3, .int (nI j))] []) (bX7_isFree_4 F G a1) ((1 : Int32)) ((F 5).toNatClampNeg) ?_ ?_
  ·
    intro j4 hj4 K4
    generalize nf (bX7_isFree_4 F G a1) ((1 : Int32)) j4 = v4 at K4 ⊢
    show J p l e _ s m args below meth c A 4 _ (OV D Y A ad (F 0) (F 1) (F 5) (F 18) (F 19) (F 20) (G 2) (G 3) (G 4) (G 6) (G 7) (G 8) (G 9) (G 10) (G 11) (G 12) (G 13) (G 14) (G 15) (G 16) (G 17) (G 21) (G 22) (G 23) (G 24) (G 25)) 0 0 4 [(0, .ref (ad 0)), (1, .int (a1)), (2, .int (v4)), (3, .int (nI j4))] []
    replace K4 : J p l e _ s m args below meth c A 4 _ (OV D Y A ad (F 0) (F 1) (F 5) (F 18) (F 19) (F 20) (G 2) (G 3) (G 4) (G 6) (G 7) (G 8) (G 9) (G 10) (G 11) (G 12) (G 13) (G 14) (G 15) (G 16) (G 17) (G 21) (G 22) (G 23) (G 24) (G 25)) 0 0 4 [(0, .ref (ad 0)), (1, .int (a1)), (2, .int ((bX7_isFree_4 F G a1 j4 v4))), (3, .int (nI (j4 + 1)))] [] := K4
    refine j_iload_n C0 dX7_isFree_4 rfl ?_
    refine j_aload_n C0 dX7_isFree_5 rfl ?_
    refine r_gf_5 C0 (v := (F 5)) dX7_isFree_6 rfl ?_
    refine j_icmp_ge C0 57 dX7_isFree_9 (by decide) (fun z => absurd z (cl_lt rfl hj4)) (fun _ => ?_)
    refine j_iload_n C0 dX7_isFree_12 rfl ?_
    refine j_if_eq C0 49 dX7_isFree_13 (by decide) (fun (q2 : v4 = 0) => ?_) (fun (q2 : ¬ (v4 = 0)) => ?_)
    ·
      refine j_iconst C0 (v := 0) dX7_isFree_49 (by decide) ?_
      refine j_istore_n C0 (L' := [(0, .ref (ad 0)), (1, .int (a1)), (2, .int ((0 : Int32))), (3, .int (nI j4))]) dX7_isFree_50 (by decide) rfl ?_
      refine j_iinc C0 (v := nI (j4 + 1)) (L' := [(0, .ref (ad 0)), (1, .int (a1)), (2, .int ((0 : Int32))), (3, .int (nI (j4 + 1)))]) dX7_isFree_51 rfl (nI_inc j4) (by decide) rfl ?_
      refine j_goto C0 4 dX7_isFree_54 (by decide) ?_
      rw [bX7_isFree_4, if_pos q2] at K4
      exact K4
    ·
      refine j_aload_n C0 dX7_isFree_16 rfl ?_
      refine r_gf_9 C0 dX7_isFree_17 ?_
      refine j_iload_n C0 dX7_isFree_20 rfl ?_
      refine r_ld_9 C0 (v := ((G 9) (nI j4).toNatClampNeg)) (vp_nI (by omega) (by decide)) dX7_isFree_21 rfl ?_
      refine j_iload_n C0 dX7_isFree_22 rfl ?_
      refine j_icmp_ne C0 45 dX7_isFree_23 (by decide) (fun (q3 : ¬ (((G 9) (nI j4).toNatClampNeg) = a1)) => ?_) (fun (q3 : ((G 9) (nI j4).toNatClampNeg) = a1) => ?_)
      ·
        refine j_iconst C0 (v := 1) dX7_isFree_45 (by decide) ?_
        refine j_goto C0 50 dX7_isFree_46 (by decide) ?_
        refine j_istore_n C0 (L' := [(0, .ref (ad 0)), (1, .int (a1)), (2, .int ((1 : Int32))), (3, .int (nI j4))]) dX7_isFree_50 (by decide) rfl ?_
        refine j_iinc C0 (v := nI (j4 + 1)) (L' := [(0, .ref (ad 0)), (1, .int (a1)), (2, .int ((1 : Int32))), (3, .int (nI (j4 + 1)))]) dX7_isFree_51 rfl (nI_inc j4) (by decide) rfl ?_
        refine j_goto C0 4 dX7_isFree_54 (by decide) ?_
        rw [bX7_isFree_4, if_neg q2, if_neg q3] at K4
        exact K4
      ·
        refine j_aload_n C0 dX7_isFree_26 rfl ?_
        refine r_gf_10 C0 dX7_isFree_27 ?_
        refine j_iload_n C0 dX7_isFree_30 rfl ?_
        refine r_ld_10 C0 (v := ((G 10) (nI j4).toNatClampNeg)) (vp_nI (by omega) (by decide)) dX7_isFree_31 rfl ?_
        refine j_if_eq C0 45 dX7_isFree_32 (by decide) (fun (q4 : ((G 10) (nI j4).toNatClampNeg) = 0) => ?_) (fun (q4 : ¬ (((G 10) (nI j4).toNatClampNeg) = 0)) => ?_)
        ·
          refine j_iconst C0 (v := 1) dX7_isFree_45 (by decide) ?_
          refine j_goto C0 50 dX7_isFree_46 (by decide) ?_
          refine j_istore_n C0 (L' := [(0, .ref (ad 0)), (1, .int (a1)), (2, .int ((1 : Int32))), (3, .int (nI j4))]) dX7_isFree_50 (by decide) rfl ?_
          refine j_iinc C0 (v := nI (j4 + 1)) (L' := [(0, .ref (ad 0)), (1, .int (a1)), (2, .int ((1 : Int32))), (3, .int (nI (j4 + 1)))]) dX7_isFree_51 rfl (nI_inc j4) (by decide) rfl ?_
          refine j_goto C0 4 dX7_isFree_54 (by decide) ?_
          rw [bX7_isFree_4, if_neg q2, if_pos q3, if_pos q4] at K4
          exact K4
        ·
          refine j_aload_n C0 dX7_isFree_35 rfl ?_
          refine r_gf_10 C0 dX7_isFree_36 ?_
          refine j_iload_n C0 dX7_isFree_39 rfl ?_
          refine r_ld_10 C0 (v := ((G 10) (nI j4).toNatClampNeg)) (vp_nI (by omega) (by decide)) dX7_isFree_40 rfl ?_
          refine j_iconst C0 (v := 4) dX7_isFree_41 (by decide) ?_
          refine j_icmp_ne C0 49 dX7_isFree_42 (by decide) (fun (q5 : ¬ (((G 10) (nI j4).toNatClampNeg) = (4 : Int32))) => ?_) (fun (q5 : ((G 10) (nI j4).toNatClampNeg) = (4 : Int32)) => ?_)
          ·
            refine j_iconst C0 (v := 0) dX7_isFree_49 (by decide) ?_
            refine j_istore_n C0 (L' := [(0, .ref (ad 0)), (1, .int (a1)), (2, .int ((0 : Int32))), (3, .int (nI j4))]) dX7_isFree_50 (by decide) rfl ?_
            refine j_iinc C0 (v := nI (j4 + 1)) (L' := [(0, .ref (ad 0)), (1, .int (a1)), (2, .int ((0 : Int32))), (3, .int (nI (j4 + 1)))]) dX7_isFree_51 rfl (nI_inc j4) (by decide) rfl ?_
            refine j_goto C0 4 dX7_isFree_54 (by decide) ?_
            rw [bX7_isFree_4, if_neg q2, if_pos q3, if_neg q4, if_neg q5] at K4
            exact K4
          ·
            refine j_iconst C0 (v := 1) dX7_isFree_45 (by decide) ?_
            refine j_goto C0 50 dX7_isFree_46 (by decide) ?_
            refine j_istore_n C0 (L' := [(0, .ref (ad 0)), (1, .int (a1)), (2, .int ((1 : Int32))), (3, .int (nI j4))]) dX7_isFree_50 (by decide) rfl ?_
            refine j_iinc C0 (v := nI (j4 + 1)) (L' := [(0, .ref (ad 0)), (1, .int (a1)), (2, .int ((1 : Int32))), (3, .int (nI (j4 + 1)))]) dX7_isFree_51 rfl (nI_inc j4) (by decide) rfl ?_
            refine j_goto C0 4 dX7_isFree_54 (by decide) ?_
            rw [bX7_isFree_4, if_neg q2, if_pos q3, if_neg q4, if_pos q5] at K4
            exact K4
  ·
    show J p l e _ s m args below meth c A 4 _ (OV D Y A ad (F 0) (F 1) (F 5) (F 18) (F 19) (F 20) (G 2) (G 3) (G 4) (G 6) (G 7) (G 8) (G 9) (G 10) (G 11) (G 12) (G 13) (G 14) (G 15) (G 16) (G 17) (G 21) (G 22) (G 23) (G 24) (G 25)) 0 0 4 [(0, .ref (ad 0)), (1, .int (a1)), (2, .int ((nf (bX7_isFree_4 F G a1) ((1 : Int32)) ((F 5).toNatClampNeg)))), (3, .int (nI (((F 5).toNatClampNeg))))] []
    refine j_iload_n C0 dX7_isFree_4 rfl ?_
    refine j_aload_n C0 dX7_isFree_5 rfl ?_
    refine r_gf_5 C0 (v := (F 5)) dX7_isFree_6 rfl ?_
    refine j_icmp_ge C0 57 dX7_isFree_9 (by decide) (fun _ => ?_) (fun z => absurd (cl_le rfl) z)
    refine j_iload_n C0 dX7_isFree_57 rfl ?_
    exact j_zretE C0 rfl (by rw [vX7_isFree]) (nb_of (z_X7_isFree F G a1 _)) dX7_isFree_58 (fun H h => h)
/-! ## lowest(II)I -/
def bX7_lowest_7 (a1 : Int32) (a2 : Int32) (j7 : Nat) (v7 : Int32 × Int32) : Int32 × Int32 := match v7 with | (v7_0, v7_1) => (if ((a1 >>> (nI j7 &&& 31)) &&& (1 : Int32)) = (1 : Int32) then (if a2 ≤ v7_1 then ((v7_0 ||| (0 : Int32)), (v7_1 + (0 : Int32))) else ((v7_0 ||| ((1 : Int32) <<< (nI j7 &&& 31))), (v7_1 + (1 : Int32)))) else ((v7_0 ||| (0 : Int32)), (v7_1 + (0 : Int32))))
def vX7_lowest (a1 : Int32) (a2 : Int32) : Int32 := (nf (bX7_lowest_7 a1 a2) ((0 : Int32), (0 : Int32)) (6)).1
set_option maxRecDepth 100000 in
set_option maxHeartbeats 4000000 in
theorem k_X7_lowest {l : Launch} (hl : l.stackTraces = false) {D : va_G} {Y : Nat → ClassId} {A : Nat → Prop} {E : State → Prop} {Ω : Heap → Prop} (a1 : Int32) (a2 : Int32)  : KM l yX7_lowest cX7_lowest 6 (some .int) D Y A E 0 0 0 0 [.int (a1), .int (a2)] Ω (some (.int (vX7_lowest a1 a2))) Ω := by
  refine KM_of RX7 [(0, .int (a1)), (1, .int (a2))] rfl (by decide) hl (Nat.le_of_ble_eq_true rfl) rfl (lok_of rfl rfl) ?_
  intro p e s m args below meth c C0
  refine j_iconst C0 (v := 0) dX7_lowest_0 (by decide) ?_
  refine j_istore_n C0 (L' := [(0, .int (a1)), (1, .int (a2)), (2, .int ((0 : Int32)))]) dX7_lowest_1 (by decide) rfl ?_
  refine j_iconst C0 (v := 0) dX7_lowest_2 (by decide) ?_
  refine j_istore_n C0 (L' := [(0, .int (a1)), (1, .int (a2)), (2, .int ((0 : Int32))), (3, .int ((0 : Int32)))]) dX7_lowest_3 (by decide) rfl ?_
  refine j_iconst C0 (v := 0) dX7_lowest_4 (by decide) ?_
  refine j_istore C0 (L' := [(0, .int (a1)), (1, .int (a2)), (2, .int ((0 : Int32))), (3, .int ((0 : Int32))), (4, .int ((0 : Int32)))]) dX7_lowest_5 (by decide) rfl ?_
  refine hb_lp (P := fun (j : Nat) (v : Int32 × Int32) => J p l e _ s m args below meth c A 6 _ Ω 0 0 7 [(0, .int (a1)), (1, .int (a2)), (2, .int (v.1)), (3, .int (v.2)), (4, .int (nI j))] []) (bX7_lowest_7 a1 a2) ((0 : Int32), (0 : Int32)) (6) ?_ ?_
  ·
    intro j7 hj7 K7
    generalize nf (bX7_lowest_7 a1 a2) ((0 : Int32), (0 : Int32)) j7 = v7 at K7 ⊢
    obtain ⟨v7_0, v7_1⟩ := v7
    show J p l e _ s m args below meth c A 6 _ Ω 0 0 7 [(0, .int (a1)), (1, .int (a2)), (2, .int (v7_0)), (3, .int (v7_1)), (4, .int (nI j7))] []
    replace K7 : J p l e _ s m args below meth c A 6 _ Ω 0 0 7 [(0, .int (a1)), (1, .int (a2)), (2, .int ((bX7_lowest_7 a1 a2 j7 (v7_0, v7_1)).1)), (3, .int ((bX7_lowest_7 a1 a2 j7 (v7_0, v7_1)).2)), (4, .int (nI (j7 + 1)))] [] := K7
    refine j_iload C0 dX7_lowest_7 rfl ?_
    refine j_bipush C0 (v := 6) dX7_lowest_9 (by decide) ?_
    refine j_icmp_ge C0 71 dX7_lowest_11 (by decide) (fun z => absurd z (cl_lt (show (6 : Int32).toNatClampNeg = 6 by decide +kernel) hj7)) (fun _ => ?_)
    refine j_iload_n C0 dX7_lowest_14 rfl ?_
    refine j_iload C0 dX7_lowest_15 rfl ?_
    refine j_ishr C0 dX7_lowest_17 ?_
    refine j_iconst C0 (v := 1) dX7_lowest_18 (by decide) ?_
    refine j_iand C0 dX7_lowest_19 ?_
    refine j_iconst C0 (v := 1) dX7_lowest_20 (by decide) ?_
    refine j_icmp_ne C0 33 dX7_lowest_21 (by decide) (fun (q2 : ¬ (((a1 >>> (nI j7 &&& 31)) &&& (1 : Int32)) = (1 : Int32))) => ?_) (fun (q2 : ((a1 >>> (nI j7 &&& 31)) &&& (1 : Int32)) = (1 : Int32)) => ?_)
    ·
      refine j_iconst C0 (v := 0) dX7_lowest_33 (by decide) ?_
      refine j_istore C0 (L' := [(0, .int (a1)), (1, .int (a2)), (2, .int (v7_0)), (3, .int (v7_1)), (4, .int (nI j7)), (5, .int ((0 : Int32)))]) dX7_lowest_34 (by decide) rfl ?_
      refine j_iload_n C0 dX7_lowest_36 rfl ?_
      refine j_iload C0 dX7_lowest_37 rfl ?_
      refine j_if_eq C0 49 dX7_lowest_39 (by decide) (fun _ => ?_) (fun z => absurd (by decide) z)
      refine j_iconst C0 (v := 0) dX7_lowest_49 (by decide) ?_
      refine j_ior C0 dX7_lowest_50 ?_
      refine j_istore_n C0 (L' := [(0, .int (a1)), (1, .int (a2)), (2, .int ((v7_0 ||| (0 : Int32)))), (3, .int (v7_1)), (4, .int (nI j7)), (5, .int ((0 : Int32)))]) dX7_lowest_51 (by decide) rfl ?_
      refine j_iload_n C0 dX7_lowest_52 rfl ?_
      refine j_iload C0 dX7_lowest_53 rfl ?_
      refine j_if_eq C0 62 dX7_lowest_55 (by decide) (fun _ => ?_) (fun z => absurd (by decide) z)
      refine j_iconst C0 (v := 0) dX7_lowest_62 (by decide) ?_
      refine j_iadd C0 dX7_lowest_63 ?_
      refine j_istore_n C0 (L' := [(0, .int (a1)), (1, .int (a2)), (2, .int ((v7_0 ||| (0 : Int32)))), (3, .int ((v7_1 + (0 : Int32)))), (4, .int (nI j7)), (5, .int ((0 : Int32)))]) dX7_lowest_64 (by decide) rfl ?_
      refine j_iinc C0 (v := nI (j7 + 1)) (L' := [(0, .int (a1)), (1, .int (a2)), (2, .int ((v7_0 ||| (0 : Int32)))), (3, .int ((v7_1 + (0 : Int32)))), (4, .int (nI (j7 + 1))), (5, .int ((0 : Int32)))]) dX7_lowest_65 rfl (nI_inc j7) (by decide) rfl ?_
      refine j_goto C0 7 dX7_lowest_68 (by decide) ?_
      rw [bX7_lowest_7, if_neg q2] at K7
      refine j_locals (L' := [(0, .int (a1)), (1, .int (a2)), (2, .int ((v7_0 ||| (0 : Int32)))), (3, .int ((v7_1 + (0 : Int32)))), (4, .int (nI (j7 + 1)))]) (fun q hq => by simp only [List.mem_cons, List.mem_nil_iff, or_false] at hq ⊢; rcases hq with rfl | rfl | rfl | rfl | rfl <;> simp) (lok_of rfl rfl) ?_
      exact K7
    ·
      refine j_iload_n C0 dX7_lowest_24 rfl ?_
      refine j_iload_n C0 dX7_lowest_25 rfl ?_
      refine j_icmp_ge C0 33 dX7_lowest_26 (by decide) (fun (q5 : a2 ≤ v7_1) => ?_) (fun (q5 : ¬ (a2 ≤ v7_1)) => ?_)
      ·
        refine j_iconst C0 (v := 0) dX7_lowest_33 (by decide) ?_
        refine j_istore C0 (L' := [(0, .int (a1)), (1, .int (a2)), (2, .int (v7_0)), (3, .int (v7_1)), (4, .int (nI j7)), (5, .int ((0 : Int32)))]) dX7_lowest_34 (by decide) rfl ?_
        refine j_iload_n C0 dX7_lowest_36 rfl ?_
        refine j_iload C0 dX7_lowest_37 rfl ?_
        refine j_if_eq C0 49 dX7_lowest_39 (by decide) (fun _ => ?_) (fun z => absurd (by decide) z)
        refine j_iconst C0 (v := 0) dX7_lowest_49 (by decide) ?_
        refine j_ior C0 dX7_lowest_50 ?_
        refine j_istore_n C0 (L' := [(0, .int (a1)), (1, .int (a2)), (2, .int ((v7_0 ||| (0 : Int32)))), (3, .int (v7_1)), (4, .int (nI j7)), (5, .int ((0 : Int32)))]) dX7_lowest_51 (by decide) rfl ?_
        refine j_iload_n C0 dX7_lowest_52 rfl ?_
        refine j_iload C0 dX7_lowest_53 rfl ?_
        refine j_if_eq C0 62 dX7_lowest_55 (by decide) (fun _ => ?_) (fun z => absurd (by decide) z)
        refine j_iconst C0 (v := 0) dX7_lowest_62 (by decide) ?_
        refine j_iadd C0 dX7_lowest_63 ?_
        refine j_istore_n C0 (L' := [(0, .int (a1)), (1, .int (a2)), (2, .int ((v7_0 ||| (0 : Int32)))), (3, .int ((v7_1 + (0 : Int32)))), (4, .int (nI j7)), (5, .int ((0 : Int32)))]) dX7_lowest_64 (by decide) rfl ?_
        refine j_iinc C0 (v := nI (j7 + 1)) (L' := [(0, .int (a1)), (1, .int (a2)), (2, .int ((v7_0 ||| (0 : Int32)))), (3, .int ((v7_1 + (0 : Int32)))), (4, .int (nI (j7 + 1))), (5, .int ((0 : Int32)))]) dX7_lowest_65 rfl (nI_inc j7) (by decide) rfl ?_
        refine j_goto C0 7 dX7_lowest_68 (by decide) ?_
        rw [bX7_lowest_7, if_pos q2, if_pos q5] at K7
        refine j_locals (L' := [(0, .int (a1)), (1, .int (a2)), (2, .int ((v7_0 ||| (0 : Int32)))), (3, .int ((v7_1 + (0 : Int32)))), (4, .int (nI (j7 + 1)))]) (fun q hq => by simp only [List.mem_cons, List.mem_nil_iff, or_false] at hq ⊢; rcases hq with rfl | rfl | rfl | rfl | rfl <;> simp) (lok_of rfl rfl) ?_
        exact K7
      ·
        refine j_iconst C0 (v := 1) dX7_lowest_29 (by decide) ?_
        refine j_goto C0 34 dX7_lowest_30 (by decide) ?_
        refine j_istore C0 (L' := [(0, .int (a1)), (1, .int (a2)), (2, .int (v7_0)), (3, .int (v7_1)), (4, .int (nI j7)), (5, .int ((1 : Int32)))]) dX7_lowest_34 (by decide) rfl ?_
        refine j_iload_n C0 dX7_lowest_36 rfl ?_
        refine j_iload C0 dX7_lowest_37 rfl ?_
        refine j_if_eq C0 49 dX7_lowest_39 (by decide) (fun z => absurd z (by decide)) (fun _ => ?_)
        refine j_iconst C0 (v := 1) dX7_lowest_42 (by decide) ?_
        refine j_iload C0 dX7_lowest_43 rfl ?_
        refine j_ishl C0 dX7_lowest_45 ?_
        refine j_goto C0 50 dX7_lowest_46 (by decide) ?_
        refine j_ior C0 dX7_lowest_50 ?_
        refine j_istore_n C0 (L' := [(0, .int (a1)), (1, .int (a2)), (2, .int ((v7_0 ||| ((1 : Int32) <<< (nI j7 &&& 31))))), (3, .int (v7_1)), (4, .int (nI j7)), (5, .int ((1 : Int32)))]) dX7_lowest_51 (by decide) rfl ?_
        refine j_iload_n C0 dX7_lowest_52 rfl ?_
        refine j_iload C0 dX7_lowest_53 rfl ?_
        refine j_if_eq C0 62 dX7_lowest_55 (by decide) (fun z => absurd z (by decide)) (fun _ => ?_)
        refine j_iconst C0 (v := 1) dX7_lowest_58 (by decide) ?_
        refine j_goto C0 63 dX7_lowest_59 (by decide) ?_
        refine j_iadd C0 dX7_lowest_63 ?_
        refine j_istore_n C0 (L' := [(0, .int (a1)), (1, .int (a2)), (2, .int ((v7_0 ||| ((1 : Int32) <<< (nI j7 &&& 31))))), (3, .int ((v7_1 + (1 : Int32)))), (4, .int (nI j7)), (5, .int ((1 : Int32)))]) dX7_lowest_64 (by decide) rfl ?_
        refine j_iinc C0 (v := nI (j7 + 1)) (L' := [(0, .int (a1)), (1, .int (a2)), (2, .int ((v7_0 ||| ((1 : Int32) <<< (nI j7 &&& 31))))), (3, .int ((v7_1 + (1 : Int32)))), (4, .int (nI (j7 + 1))), (5, .int ((1 : Int32)))]) dX7_lowest_65 rfl (nI_inc j7) (by decide) rfl ?_
        refine j_goto C0 7 dX7_lowest_68 (by decide) ?_
        rw [bX7_lowest_7, if_pos q2, if_neg q5] at K7
        refine j_locals (L' := [(0, .int (a1)), (1, .int (a2)), (2, .int ((v7_0 ||| ((1 : Int32) <<< (nI j7 &&& 31))))), (3, .int ((v7_1 + (1 : Int32)))), (4, .int (nI (j7 + 1)))]) (fun q hq => by simp only [List.mem_cons, List.mem_nil_iff, or_false] at hq ⊢; rcases hq with rfl | rfl | rfl | rfl | rfl <;> simp) (lok_of rfl rfl) ?_
        exact K7
  ·
    show J p l e _ s m args below meth c A 6 _ Ω 0 0 7 [(0, .int (a1)), (1, .int (a2)), (2, .int ((nf (bX7_lowest_7 a1 a2) ((0 : Int32), (0 : Int32)) (6)).1)), (3, .int ((nf (bX7_lowest_7 a1 a2) ((0 : Int32), (0 : Int32)) (6)).2)), (4, .int (nI ((6))))] []
    refine j_iload C0 dX7_lowest_7 rfl ?_
    refine j_bipush C0 (v := 6) dX7_lowest_9 (by decide) ?_
    refine j_icmp_ge C0 71 dX7_lowest_11 (by decide) (fun _ => ?_) (fun z => absurd (cl_le (show (6 : Int32).toNatClampNeg = 6 by decide +kernel)) z)
    refine j_iload_n C0 dX7_lowest_71 rfl ?_
    exact j_iretE C0 rfl (by rw [vX7_lowest]) dX7_lowest_72 (fun H h => h)
/-! ## pays(II)V -/
set_option maxRecDepth 100000 in
set_option maxHeartbeats 4000000 in
theorem k_X7_pays {l : Launch} (hl : l.stackTraces = false) {D : va_G} {Y : Nat → ClassId} {A : Nat → Prop} {E : State → Prop} (ad : Nat → Nat) (F : Nat → Int32) (G : Nat → Nat → Int32) (a1 : Int32) (a2 : Int32) (hs1 : vp_in a1 30) : KM l yX7_pays cX7_pays 3 none D Y A E 0 0 0 0 [.ref (ad 0), .int (a1), .int (a2)] (OR D Y A ad F G) none (OR D Y A ad F (hu G 13 (upd (G 13) (a1).toNatClampNeg ((((G 13) (a1).toNatClampNeg) + a2))))) := by
  refine KM_of RX7 [(0, .ref (ad 0)), (1, .int (a1)), (2, .int (a2))] rfl (by decide) hl (Nat.le_of_ble_eq_true rfl) rfl (lok_of rfl rfl) ?_
  intro p e s m args below meth c C0
  refine j_aload_n C0 dX7_pays_0 rfl ?_
  refine r_gf_13 C0 dX7_pays_1 ?_
  refine j_iload_n C0 dX7_pays_4 rfl ?_
  refine j_dup2 C0 dX7_pays_5 rfl rfl ?_
  refine r_ld_13 C0 (v := ((G 13) (a1).toNatClampNeg)) hs1 dX7_pays_6 rfl ?_
  refine j_iload_n C0 dX7_pays_7 rfl ?_
  refine j_iadd C0 dX7_pays_8 ?_
  refine r_st_13 C0 hs1 dX7_pays_9 ?_
  exact j_vret C0 rfl dX7_pays_10 (fun H h => h)
end
section
theorem j_castL {p : Program} {l : Launch} {e : Env} {R : Room} {s : State} {m : MethodId} {args : Array Value} {below : List Frame} {meth : Method} {c : Code} {A : Nat → Prop} {nL : Nat} {Q : State → Prop} {Ω : Heap → Prop} {cells slots pc : Nat} {L L' : List (Nat × Value)} {st : List Value} (h : L' = L) (kk : J p l e R s m args below meth c A nL Q Ω cells slots pc L' st) : J p l e R s m args below meth c A nL Q Ω cells slots pc L st := h ▸ kk
theorem k_inc (x : Int32) (j : Nat) : x + nI j + Int32.ofInt 1 = x + nI (j + 1) := by rw [Int32.add_assoc, nI_inc]
theorem k_zero (x : Int32) : x + nI 0 = x := by rw [nI_0, Int32.add_zero]
/-- a loop while c -/
def wl {α : Type} (f : α → α) (c : α → Bool) : Nat → α → α
  | 0, a => a
  | n + 1, a => if c a = true then wl f c n (f a) else a
theorem wl_end {α : Type} (f : α → α) (c : α → Bool) (μ : α → Nat) (hμ : ∀ v, c v = true → μ (f v) < μ v) : ∀ (n : Nat) (a : α), μ a ≤ n → c (wl f c n a) = false := by
  intro n
  induction n with
  | zero =>
    intro a h
    cases hc : c a with
    | false => exact hc
    | true => exact absurd (hμ a hc) (by omega)
  | succ n ih =>
    intro a h
    unfold wl
    split
    · rename_i hc
      exact ih _ (by have := hμ a hc; omega)
    · rename_i hc
      exact Bool.eq_false_iff.mpr hc
theorem hb_wl {α : Type} (P : α → Prop) (f : α → α) (c : α → Bool) (hs : ∀ v, c v = true → P (f v) → P v) : ∀ (n : Nat) (a : α), P (wl f c n a) → P a := by
  intro n
  induction n with
  | zero => intro a h; exact h
  | succ n ih =>
    intro a h
    unfold wl at h
    split at h
    · rename_i hc
      exact hs a hc (ih _ h)
    · exact h
/-! ## many(I)I -/
def bX7_many (v : Int32 × Int32) : Int32 × Int32 := (v.1 + (v.2 - v.2 / (2 : Int32) * (2 : Int32)), v.2 / (2 : Int32))
def cX7_manyC (v : Int32 × Int32) : Bool := decide (0 < v.2)
theorem many_mu (v : Int32 × Int32) (h : cX7_manyC v = true) : (bX7_many v).2.toNatClampNeg < v.2.toNatClampNeg := by
  have hp : 0 < v.2 := of_decide_eq_true h
  obtain ⟨j, h1, h2⟩ := nI_of (x := v.2) (by
    rw [Int32.lt_iff_toInt_lt] at hp ⊢
    omega)
  show (v.2 / (2 : Int32)).toNatClampNeg < _
  rw [h2] at hp ⊢
  rw [show (2 : Int32) = nI 2 from rfl, pk_div h1 (by decide) (by decide), nI_clamp (by omega), nI_clamp h1]
  have : 0 < j := by
    rcases Nat.eq_zero_or_pos j with e | e
    · subst e; exact absurd hp (by decide)
    · exact e
  omega
def vX7_many (a1 : Int32) : Int32 := (wl bX7_many cX7_manyC a1.toNatClampNeg ((0 : Int32), a1)).1
set_option maxRecDepth 100000 in
set_option maxHeartbeats 4000000 in
theorem k_X7_many {l : Launch} (hl : l.stackTraces = false) {D : va_G} {Y : Nat → ClassId} {A : Nat → Prop} {E : State → Prop} {Ω : Heap → Prop} (a1 : Int32) : KM l yX7_many cX7_many 3 (some .int) D Y A E 0 0 0 0 [.int (a1)] Ω (some (.int (vX7_many a1))) Ω := by
  refine KM_of RX7 [(0, .int (a1))] rfl (by decide) hl (Nat.le_of_ble_eq_true rfl) rfl (lok_of rfl rfl) ?_
  intro p e s m args below meth c C0
  refine j_iconst C0 (v := 0) dX7_many_0 (by decide) ?_
  refine j_istore_n C0 (L' := [(0, .int a1), (1, .int 0)]) dX7_many_1 (by decide) rfl ?_
  refine j_iload_n C0 dX7_many_2 rfl ?_
  refine j_istore_n C0 (L' := [(0, .int a1), (1, .int 0), (2, .int a1)]) dX7_many_3 (by decide) rfl ?_
  refine hb_wl (P := fun (v : Int32 × Int32) => J p l e _ s m args below meth c A 3 _ Ω 0 0 4 [(0, .int a1), (1, .int v.1), (2, .int v.2)] []) bX7_many cX7_manyC ?_ a1.toNatClampNeg ((0 : Int32), a1) ?_
  · intro v hv K
    have hp : 0 < v.2 := of_decide_eq_true hv
    refine j_iload_n C0 dX7_many_4 rfl ?_
    refine j_if_le C0 21 dX7_many_5 (by decide) (fun z => absurd z (by rw [Int32.lt_iff_toInt_lt] at hp; rw [Int32.le_iff_toInt_le]; omega)) (fun _ => ?_)
    refine j_iload_n C0 dX7_many_8 rfl ?_
    refine j_iload_n C0 dX7_many_9 rfl ?_
    refine j_iconst C0 (v := 2) dX7_many_10 (by decide) ?_
    refine j_irem C0 dX7_many_11 (by decide) ?_
    refine j_iadd C0 dX7_many_12 ?_
    refine j_istore_n C0 (L' := [(0, .int a1), (1, .int (bX7_many v).1), (2, .int v.2)]) dX7_many_13 (by decide) rfl ?_
    refine j_iload_n C0 dX7_many_14 rfl ?_
    refine j_iconst C0 (v := 2) dX7_many_15 (by decide) ?_
    refine j_idiv C0 dX7_many_16 (by decide) ?_
    refine j_istore_n C0 (L' := [(0, .int a1), (1, .int (bX7_many v).1), (2, .int (bX7_many v).2)]) dX7_many_17 (by decide) rfl ?_
    exact j_goto C0 4 dX7_many_18 (by decide) K
  · have he := wl_end bX7_many cX7_manyC (fun v => v.2.toNatClampNeg) many_mu a1.toNatClampNeg ((0 : Int32), a1) (Nat.le_refl _)
    have hz : ¬ 0 < (wl bX7_many cX7_manyC a1.toNatClampNeg ((0 : Int32), a1)).2 := of_decide_eq_false he
    show J p l e _ s m args below meth c A 3 _ Ω 0 0 4 [(0, .int a1), (1, .int (wl bX7_many cX7_manyC a1.toNatClampNeg ((0 : Int32), a1)).1), (2, .int (wl bX7_many cX7_manyC a1.toNatClampNeg ((0 : Int32), a1)).2)] []
    refine j_iload_n C0 dX7_many_4 rfl ?_
    refine j_if_le C0 21 dX7_many_5 (by decide) (fun _ => ?_) (fun z => absurd (by rw [Int32.lt_iff_toInt_lt] at hz; rw [Int32.le_iff_toInt_le]; omega) z)
    refine j_iload_n C0 dX7_many_21 rfl ?_
    exact j_iretE C0 rfl (by rw [vX7_many]) dX7_many_22 (fun H h => h)
/-! ## loses(I)V -/
def sX7_loses (F : Nat → Int32) (G : Nat → Nat → Int32) (a1 : Int32) : (Nat → Int32) × (Nat → Nat → Int32) := (F, (hu (hu (hu (hu G 13 (upd (G 13) (a1).toNatClampNeg (((G 13) (a1).toNatClampNeg) + (100 : Int32)))) 17 (upd (upd (G 17) (((G 16) ((0 : Int32)).toNatClampNeg)).toNatClampNeg ((((G 17) (((G 16) ((0 : Int32)).toNatClampNeg)).toNatClampNeg) + (50 : Int32)))) (((G 16) ((1 : Int32)).toNatClampNeg)).toNatClampNeg ((((upd (G 17) (((G 16) ((0 : Int32)).toNatClampNeg)).toNatClampNeg ((((G 17) (((G 16) ((0 : Int32)).toNatClampNeg)).toNatClampNeg) + (50 : Int32)))) (((G 16) ((1 : Int32)).toNatClampNeg)).toNatClampNeg) + (50 : Int32))))) 14 (upd (G 14) (a1).toNatClampNeg ((((G 14) (a1).toNatClampNeg) + (1 : Int32))))) 11 (upd (G 11) (a1).toNatClampNeg ((-1 : Int32)))))
set_option maxRecDepth 100000 in
set_option maxHeartbeats 4000000 in
theorem k_X7_loses {l : Launch} (hl : l.stackTraces = false) {D : va_G} {Y : Nat → ClassId} {A : Nat → Prop} {E : State → Prop} (ad : Nat → Nat) (F : Nat → Int32) (G : Nat → Nat → Int32) (a1 : Int32) (hs1 : vp_in a1 30) (hr : ∀ j, j < 6 → vp_in (G 16 j) 6) : KM l yX7_loses cX7_loses 2 none D Y A E 1 22 0 0 [.ref (ad 0), .int (a1)] (OR D Y A ad F G) none (OR D Y A ad (sX7_loses F G a1).1 (sX7_loses F G a1).2) := by
  refine KM_of RX7 [(0, .ref (ad 0)), (1, .int (a1))] rfl (by decide) hl (Nat.le_of_ble_eq_true rfl) rfl (lok_of rfl rfl) ?_
  intro p e s m args below meth c C0
  refine j_aload_n C0 dX7_loses_0 rfl ?_
  refine j_iload_n C0 dX7_loses_1 rfl ?_
  refine j_bipush C0 (v := 100) dX7_loses_2 (by decide) ?_
  refine j_callVn C0 (k_X7_pays hl ad F G (a1) ((100 : Int32)) hs1) mv_X7_pays wm_X7_125 (r_recv C0) rfl rfl ⟨Nat.le_of_ble_eq_true rfl, Nat.le_of_ble_eq_true rfl⟩ (Nat.le_of_ble_eq_true rfl) ⟨Nat.le_refl _, Nat.le_refl _⟩ dX7_loses_4 ?_
  show J p l e _ s m args below meth c A 2 _ (OV D Y A ad (F 0) (F 1) (F 5) (F 18) (F 19) (F 20) (G 2) (G 3) (G 4) (G 6) (G 7) (G 8) (G 9) (G 10) (G 11) (G 12) (upd (G 13) (a1).toNatClampNeg (((G 13) (a1).toNatClampNeg) + (100 : Int32))) (G 14) (G 15) (G 16) (G 17) (G 21) (G 22) (G 23) (G 24) (G 25)) 0 0 7 [(0, .ref (ad 0)), (1, .int (a1))] []
  refine j_aload_n C0 dX7_loses_7 rfl ?_
  refine r_gf_17 C0 dX7_loses_8 ?_
  refine j_aload_n C0 dX7_loses_11 rfl ?_
  refine r_gf_16 C0 dX7_loses_12 ?_
  refine j_iconst C0 (v := 0) dX7_loses_15 (by decide) ?_
  refine r_ld_16 C0 (v := ((G 16) ((0 : Int32)).toNatClampNeg)) (vp_lit (by decide +kernel)) dX7_loses_16 rfl ?_
  refine j_dup2 C0 dX7_loses_17 rfl rfl ?_
  refine r_ld_17 C0 (v := ((G 17) (((G 16) ((0 : Int32)).toNatClampNeg)).toNatClampNeg)) (vp_at (N := 6) (P := fun z => vp_in z 6) (g := G 16) (j := 0) hr (by decide) (by decide)) dX7_loses_18 rfl ?_
  refine j_bipush C0 (v := 50) dX7_loses_19 (by decide) ?_
  refine j_iadd C0 dX7_loses_21 ?_
  refine r_st_17 C0 (vp_at (N := 6) (P := fun z => vp_in z 6) (g := G 16) (j := 0) hr (by decide) (by decide)) dX7_loses_22 ?_
  refine j_aload_n C0 dX7_loses_23 rfl ?_
  refine r_gf_17 C0 dX7_loses_24 ?_
  refine j_aload_n C0 dX7_loses_27 rfl ?_
  refine r_gf_16 C0 dX7_loses_28 ?_
  refine j_iconst C0 (v := 1) dX7_loses_31 (by decide) ?_
  refine r_ld_16 C0 (v := ((G 16) ((1 : Int32)).toNatClampNeg)) (vp_lit (by decide +kernel)) dX7_loses_32 rfl ?_
  refine j_dup2 C0 dX7_loses_33 rfl rfl ?_
  refine r_ld_17 C0 (v := ((upd (G 17) (((G 16) ((0 : Int32)).toNatClampNeg)).toNatClampNeg ((((G 17) (((G 16) ((0 : Int32)).toNatClampNeg)).toNatClampNeg) + (50 : Int32)))) (((G 16) ((1 : Int32)).toNatClampNeg)).toNatClampNeg)) (vp_at (N := 6) (P := fun z => vp_in z 6) (g := G 16) (j := 1) hr (by decide) (by decide)) dX7_loses_34 rfl ?_
  refine j_bipush C0 (v := 50) dX7_loses_35 (by decide) ?_
  refine j_iadd C0 dX7_loses_37 ?_
  refine r_st_17 C0 (vp_at (N := 6) (P := fun z => vp_in z 6) (g := G 16) (j := 1) hr (by decide) (by decide)) dX7_loses_38 ?_
  refine j_aload_n C0 dX7_loses_39 rfl ?_
  refine r_gf_14 C0 dX7_loses_40 ?_
  refine j_iload_n C0 dX7_loses_43 rfl ?_
  refine j_dup2 C0 dX7_loses_44 rfl rfl ?_
  refine r_ld_14 C0 (v := ((G 14) (a1).toNatClampNeg)) hs1 dX7_loses_45 rfl ?_
  refine j_iconst C0 (v := 1) dX7_loses_46 (by decide) ?_
  refine j_iadd C0 dX7_loses_47 ?_
  refine r_st_14 C0 hs1 dX7_loses_48 ?_
  refine j_aload_n C0 dX7_loses_49 rfl ?_
  refine r_gf_11 C0 dX7_loses_50 ?_
  refine j_iload_n C0 dX7_loses_53 rfl ?_
  refine j_iconst C0 (v := -1) dX7_loses_54 (by decide) ?_
  refine r_st_11 C0 hs1 dX7_loses_55 ?_
  exact j_vret C0 rfl dX7_loses_56 (fun H h => by rw [sX7_loses]; exact h)
/-! ## begins(I)V -/
def bX7_begins_15 (F : Nat → Int32) (G : Nat → Nat → Int32) (a1 : Int32) (j15 : Nat) (v15 : (Nat → Int32)) : (Nat → Int32) := ((upd v15 (((vX7_firstReady F G) + nI (j15))).toNatClampNeg ((v15 ((((vX7_firstReady F G) + nI (j15)) + (1 : Int32))).toNatClampNeg))))
def sX7_begins (F : Nat → Int32) (G : Nat → Nat → Int32) (a1 : Int32) : (Nat → Int32) × (Nat → Nat → Int32) := (if ((G 10) (a1).toNatClampNeg) = 0 then ((hu (hu (hu F 20 ((F 20) + (1 : Int32))) 18 ((F 18) + ((30 : Int32) * ((G 6) (a1).toNatClampNeg)))) 19 ((F 19) + ((100 : Int32) * ((G 6) (a1).toNatClampNeg)))), (hu (hu (hu (hu (hu (hu (hu (hu (hu (hu (hu G 16 (upd (nf (bX7_begins_15 F G a1) ((G 16)) (((5 : Int32) - vX7_firstReady F G).toNatClampNeg)) ((5 : Int32)).toNatClampNeg (((G 16) ((vX7_firstReady F G)).toNatClampNeg)))) 21 (upd (G 21) ((F 20)).toNatClampNeg ((F 1)))) 22 (upd (G 22) ((F 20)).toNatClampNeg (a1))) 23 (upd (G 23) ((F 20)).toNatClampNeg (((G 16) ((vX7_firstReady F G)).toNatClampNeg)))) 24 (upd (G 24) ((F 20)).toNatClampNeg ((vX7_lowest ((vX7_tugsNow F (hu (hu (hu (hu G 16 (upd (nf (bX7_begins_15 F G a1) ((G 16)) (((5 : Int32) - vX7_firstReady F G).toNatClampNeg)) ((5 : Int32)).toNatClampNeg (((G 16) ((vX7_firstReady F G)).toNatClampNeg)))) 21 (upd (G 21) ((F 20)).toNatClampNeg ((F 1)))) 22 (upd (G 22) ((F 20)).toNatClampNeg (a1))) 23 (upd (G 23) ((F 20)).toNatClampNeg (((G 16) ((vX7_firstReady F G)).toNatClampNeg)))))) (((G 6) (a1).toNatClampNeg)))))) 25 (upd (G 25) ((F 20)).toNatClampNeg (vp_nar .boolean (0 : Int32)))) 13 (upd (G 13) (a1).toNatClampNeg (((G 13) (a1).toNatClampNeg) + (((50 : Int32) + ((30 : Int32) * ((G 6) (a1).toNatClampNeg))) + ((100 : Int32) * ((G 6) (a1).toNatClampNeg)))))) 17 (upd (G 17) (((G 16) ((vX7_firstReady F G)).toNatClampNeg)).toNatClampNeg ((((G 17) (((G 16) ((vX7_firstReady F G)).toNatClampNeg)).toNatClampNeg) + (50 : Int32))))) 10 (upd (G 10) (a1).toNatClampNeg ((1 : Int32)))) 12 (upd (G 12) (a1).toNatClampNeg ((F 1)))) 11 (upd (G 11) (a1).toNatClampNeg ((-1 : Int32))))) else ((hu (hu (hu F 20 ((F 20) + (1 : Int32))) 18 ((F 18) + ((30 : Int32) * ((G 6) (a1).toNatClampNeg)))) 19 ((F 19) + (0 : Int32))), (hu (hu (hu (hu (hu (hu (hu (hu (hu (hu (hu G 16 (upd (nf (bX7_begins_15 F G a1) ((G 16)) (((5 : Int32) - vX7_firstReady F G).toNatClampNeg)) ((5 : Int32)).toNatClampNeg (((G 16) ((vX7_firstReady F G)).toNatClampNeg)))) 21 (upd (G 21) ((F 20)).toNatClampNeg ((F 1)))) 22 (upd (G 22) ((F 20)).toNatClampNeg (a1))) 23 (upd (G 23) ((F 20)).toNatClampNeg (((G 16) ((vX7_firstReady F G)).toNatClampNeg)))) 24 (upd (G 24) ((F 20)).toNatClampNeg ((vX7_lowest ((vX7_tugsNow F (hu (hu (hu (hu G 16 (upd (nf (bX7_begins_15 F G a1) ((G 16)) (((5 : Int32) - vX7_firstReady F G).toNatClampNeg)) ((5 : Int32)).toNatClampNeg (((G 16) ((vX7_firstReady F G)).toNatClampNeg)))) 21 (upd (G 21) ((F 20)).toNatClampNeg ((F 1)))) 22 (upd (G 22) ((F 20)).toNatClampNeg (a1))) 23 (upd (G 23) ((F 20)).toNatClampNeg (((G 16) ((vX7_firstReady F G)).toNatClampNeg)))))) (((G 6) (a1).toNatClampNeg)))))) 25 (upd (G 25) ((F 20)).toNatClampNeg (vp_nar .boolean (1 : Int32)))) 13 (upd (G 13) (a1).toNatClampNeg (((G 13) (a1).toNatClampNeg) + (((50 : Int32) + ((30 : Int32) * ((G 6) (a1).toNatClampNeg))) + (0 : Int32))))) 17 (upd (G 17) (((G 16) ((vX7_firstReady F G)).toNatClampNeg)).toNatClampNeg ((((G 17) (((G 16) ((vX7_firstReady F G)).toNatClampNeg)).toNatClampNeg) + (50 : Int32))))) 10 (upd (G 10) (a1).toNatClampNeg ((3 : Int32)))) 12 (upd (G 12) (a1).toNatClampNeg ((F 1)))) 11 (upd (G 11) (a1).toNatClampNeg ((-1 : Int32))))))
set_option maxRecDepth 100000 in
set_option maxHeartbeats 4000000 in
theorem k_X7_begins {l : Launch} (hl : l.stackTraces = false) {D : va_G} {Y : Nat → ClassId} {A : Nat → Prop} {E : State → Prop} (ad : Nat → Nat) (F : Nat → Int32) (G : Nat → Nat → Int32) (a1 : Int32) (hI : RI F G) (hs1 : vp_in a1 30) (hp : vp_in (vX7_firstReady F G) 6) (hc : vp_in (F 20) 100) : KM l yX7_begins cX7_begins 5 none D Y A E 2 46 0 0 [.ref (ad 0), .int (a1)] (OR D Y A ad F G) none (OR D Y A ad (sX7_begins F G a1).1 (sX7_begins F G a1).2) := by
  refine KM_of RX7 [(0, .ref (ad 0)), (1, .int (a1))] rfl (by decide) hl (Nat.le_of_ble_eq_true rfl) rfl (lok_of rfl rfl) ?_
  intro p e s m args below meth c C0
  obtain ⟨hn, hs, hm, hb, hw, hr⟩ := id hI
  obtain ⟨pn, hpn, hpe⟩ := vp_in_of hp (by decide)
  have hk : ∀ j, vX7_firstReady F G + nI j = nI (pn + j) := fun j => by rw [hpe, nI_add]
  have hN : ((5 : Int32) - vX7_firstReady F G).toNatClampNeg = 5 - pn := by rw [hpe, show (5 : Int32) = nI 5 from rfl, pk_sub (by omega), nI_clamp (by omega)]
  have hpil : vp_in (G 16 (vX7_firstReady F G).toNatClampNeg) 6 := hr _ (vp_cl hp)
  refine j_aload_n C0 dX7_begins_0 rfl ?_
  refine j_callVv C0 (k_X7_firstReady hl ad F G  hm) mv_X7_firstReady wm_X7_129 (r_recv C0) rfl rfl ⟨Nat.le_of_ble_eq_true rfl, Nat.le_of_ble_eq_true rfl⟩ (Nat.le_of_ble_eq_true rfl) ⟨Nat.le_refl _, Nat.le_refl _⟩ dX7_begins_1 ?_
  refine j_istore_n C0 (L' := [(0, .ref (ad 0)), (1, .int (a1)), (2, .int ((vX7_firstReady F G)))]) dX7_begins_4 (by decide) rfl ?_
  refine j_aload_n C0 dX7_begins_5 rfl ?_
  refine r_gf_16 C0 dX7_begins_6 ?_
  refine j_iload_n C0 dX7_begins_9 rfl ?_
  refine r_ld_16 C0 (v := ((G 16) ((vX7_firstReady F G)).toNatClampNeg)) hp dX7_begins_10 rfl ?_
  refine j_istore_n C0 (L' := [(0, .ref (ad 0)), (1, .int (a1)), (2, .int ((vX7_firstReady F G))), (3, .int (((G 16) ((vX7_firstReady F G)).toNatClampNeg)))]) dX7_begins_11 (by decide) rfl ?_
  refine j_iload_n C0 dX7_begins_12 rfl ?_
  refine j_istore C0 (L' := [(0, .ref (ad 0)), (1, .int (a1)), (2, .int ((vX7_firstReady F G))), (3, .int (((G 16) ((vX7_firstReady F G)).toNatClampNeg))), (4, .int ((vX7_firstReady F G)))]) dX7_begins_13 (by decide) rfl ?_
  refine j_castL (L' := [(0, .ref (ad 0)), (1, .int (a1)), (2, .int ((vX7_firstReady F G))), (3, .int (((G 16) ((vX7_firstReady F G)).toNatClampNeg))), (4, .int (((vX7_firstReady F G) + nI (0))))]) (by simp only [k_zero]) ?_
  refine hb_lp (P := fun (j : Nat) (v : (Nat → Int32)) => J p l e _ s m args below meth c A 5 _ (OV D Y A ad (F 0) (F 1) (F 5) (F 18) (F 19) (F 20) (G 2) (G 3) (G 4) (G 6) (G 7) (G 8) (G 9) (G 10) (G 11) (G 12) (G 13) (G 14) (G 15) v (G 17) (G 21) (G 22) (G 23) (G 24) (G 25)) 0 0 15 [(0, .ref (ad 0)), (1, .int (a1)), (2, .int ((vX7_firstReady F G))), (3, .int (((G 16) ((vX7_firstReady F G)).toNatClampNeg))), (4, .int (((vX7_firstReady F G) + nI (j))))] []) (bX7_begins_15 F G a1) ((G 16)) (((5 : Int32) - vX7_firstReady F G).toNatClampNeg) ?_ ?_
  ·
    intro j15 hj15 K15
    generalize nf (bX7_begins_15 F G a1) ((G 16)) j15 = v15 at K15 ⊢
    show J p l e _ s m args below meth c A 5 _ (OV D Y A ad (F 0) (F 1) (F 5) (F 18) (F 19) (F 20) (G 2) (G 3) (G 4) (G 6) (G 7) (G 8) (G 9) (G 10) (G 11) (G 12) (G 13) (G 14) (G 15) v15 (G 17) (G 21) (G 22) (G 23) (G 24) (G 25)) 0 0 15 [(0, .ref (ad 0)), (1, .int (a1)), (2, .int ((vX7_firstReady F G))), (3, .int (((G 16) ((vX7_firstReady F G)).toNatClampNeg))), (4, .int (((vX7_firstReady F G) + nI (j15))))] []
    replace K15 : J p l e _ s m args below meth c A 5 _ (OV D Y A ad (F 0) (F 1) (F 5) (F 18) (F 19) (F 20) (G 2) (G 3) (G 4) (G 6) (G 7) (G 8) (G 9) (G 10) (G 11) (G 12) (G 13) (G 14) (G 15) (bX7_begins_15 F G a1 j15 v15) (G 17) (G 21) (G 22) (G 23) (G 24) (G 25)) 0 0 15 [(0, .ref (ad 0)), (1, .int (a1)), (2, .int ((vX7_firstReady F G))), (3, .int (((G 16) ((vX7_firstReady F G)).toNatClampNeg))), (4, .int (((vX7_firstReady F G) + nI (j15 + 1))))] [] := K15
    have hj15 : j15 < 5 - pn := by rw [← hN]; exact hj15
    refine j_iload C0 dX7_begins_15 rfl ?_
    refine j_iconst C0 (v := 5) dX7_begins_17 (by decide) ?_
    refine j_icmp_ge C0 43 dX7_begins_18 (by decide) (fun z => absurd z (by rw [hk]; exact nI_ge (a := pn + j15) (b := 5) (by omega) (by decide))) (fun _ => ?_)
    refine j_aload_n C0 dX7_begins_21 rfl ?_
    refine r_gf_16 C0 dX7_begins_22 ?_
    refine j_iload C0 dX7_begins_25 rfl ?_
    refine j_aload_n C0 dX7_begins_27 rfl ?_
    refine r_gf_16 C0 dX7_begins_28 ?_
    refine j_iload C0 dX7_begins_31 rfl ?_
    refine j_iconst C0 (v := 1) dX7_begins_33 (by decide) ?_
    refine j_iadd C0 dX7_begins_34 ?_
    refine r_ld_16 C0 (v := (v15 ((((vX7_firstReady F G) + nI (j15)) + (1 : Int32))).toNatClampNeg)) (by rw [hk, nI_1]; exact vp_in_nI (by omega) (by decide)) dX7_begins_35 rfl ?_
    refine r_st_16 C0 (by rw [hk]; exact vp_in_nI (by omega) (by decide)) dX7_begins_36 ?_
    refine j_iinc C0 (v := ((vX7_firstReady F G) + nI (j15 + 1))) (L' := [(0, .ref (ad 0)), (1, .int (a1)), (2, .int ((vX7_firstReady F G))), (3, .int (((G 16) ((vX7_firstReady F G)).toNatClampNeg))), (4, .int (((vX7_firstReady F G) + nI (j15 + 1))))]) dX7_begins_37 rfl (k_inc _ j15) (by decide) rfl ?_
    refine j_goto C0 15 dX7_begins_40 (by decide) ?_
    exact K15
  ·
    show J p l e _ s m args below meth c A 5 _ (OV D Y A ad (F 0) (F 1) (F 5) (F 18) (F 19) (F 20) (G 2) (G 3) (G 4) (G 6) (G 7) (G 8) (G 9) (G 10) (G 11) (G 12) (G 13) (G 14) (G 15) (nf (bX7_begins_15 F G a1) ((G 16)) (((5 : Int32) - vX7_firstReady F G).toNatClampNeg)) (G 17) (G 21) (G 22) (G 23) (G 24) (G 25)) 0 0 15 [(0, .ref (ad 0)), (1, .int (a1)), (2, .int ((vX7_firstReady F G))), (3, .int (((G 16) ((vX7_firstReady F G)).toNatClampNeg))), (4, .int (((vX7_firstReady F G) + nI ((((5 : Int32) - vX7_firstReady F G).toNatClampNeg)))))] []
    refine j_iload C0 dX7_begins_15 rfl ?_
    refine j_iconst C0 (v := 5) dX7_begins_17 (by decide) ?_
    refine j_icmp_ge C0 43 dX7_begins_18 (by decide) (fun _ => ?_) (fun z => absurd (by rw [hN, hk]; exact nI_le (a := 5) (by omega) (by omega)) z)
    refine j_aload_n C0 dX7_begins_43 rfl ?_
    refine r_gf_16 C0 dX7_begins_44 ?_
    refine j_iconst C0 (v := 5) dX7_begins_47 (by decide) ?_
    refine j_iload_n C0 dX7_begins_48 rfl ?_
    refine r_st_16 C0 (vp_lit (by decide +kernel)) dX7_begins_49 ?_
    refine j_aload_n C0 dX7_begins_50 rfl ?_
    refine r_gf_10 C0 dX7_begins_51 ?_
    refine j_iload_n C0 dX7_begins_54 rfl ?_
    refine r_ld_10 C0 (v := ((G 10) (a1).toNatClampNeg)) hs1 dX7_begins_55 rfl ?_
    refine j_if_ne C0 63 dX7_begins_56 (by decide) (fun (q3 : ¬ (((G 10) (a1).toNatClampNeg) = 0)) => ?_) (fun (q3 : ((G 10) (a1).toNatClampNeg) = 0) => ?_)
    ·
      refine j_iconst C0 (v := 0) dX7_begins_63 (by decide) ?_
      refine j_istore C0 (L' := [(0, .ref (ad 0)), (1, .int (a1)), (2, .int ((vX7_firstReady F G))), (3, .int (((G 16) ((vX7_firstReady F G)).toNatClampNeg))), (4, .int ((0 : Int32)))]) dX7_begins_64 (by decide) rfl ?_
      refine j_aload_n C0 dX7_begins_66 rfl ?_
      refine r_gf_21 C0 dX7_begins_67 ?_
      refine j_aload_n C0 dX7_begins_70 rfl ?_
      refine r_gf_20 C0 (v := (F 20)) dX7_begins_71 rfl ?_
      refine j_aload_n C0 dX7_begins_74 rfl ?_
      refine r_gf_1 C0 (v := (F 1)) dX7_begins_75 rfl ?_
      refine r_st_21 C0 hc dX7_begins_78 ?_
      refine j_aload_n C0 dX7_begins_79 rfl ?_
      refine r_gf_22 C0 dX7_begins_80 ?_
      refine j_aload_n C0 dX7_begins_83 rfl ?_
      refine r_gf_20 C0 (v := (F 20)) dX7_begins_84 rfl ?_
      refine j_iload_n C0 dX7_begins_87 rfl ?_
      refine r_st_22 C0 hc dX7_begins_88 ?_
      refine j_aload_n C0 dX7_begins_89 rfl ?_
      refine r_gf_23 C0 dX7_begins_90 ?_
      refine j_aload_n C0 dX7_begins_93 rfl ?_
      refine r_gf_20 C0 (v := (F 20)) dX7_begins_94 rfl ?_
      refine j_iload_n C0 dX7_begins_97 rfl ?_
      refine r_st_23 C0 hc dX7_begins_98 ?_
      refine j_aload_n C0 dX7_begins_99 rfl ?_
      refine r_gf_24 C0 dX7_begins_100 ?_
      refine j_aload_n C0 dX7_begins_103 rfl ?_
      refine r_gf_20 C0 (v := (F 20)) dX7_begins_104 rfl ?_
      refine j_aload_n C0 dX7_begins_107 rfl ?_
      refine j_callVv C0 (k_X7_tugsNow hl ad F (hu (hu (hu (hu G 16 (upd (nf (bX7_begins_15 F G a1) ((G 16)) (((5 : Int32) - vX7_firstReady F G).toNatClampNeg)) ((5 : Int32)).toNatClampNeg (((G 16) ((vX7_firstReady F G)).toNatClampNeg)))) 21 (upd (G 21) ((F 20)).toNatClampNeg ((F 1)))) 22 (upd (G 22) ((F 20)).toNatClampNeg (a1))) 23 (upd (G 23) ((F 20)).toNatClampNeg (((G 16) ((vX7_firstReady F G)).toNatClampNeg))))  hm) mv_X7_tugsNow wm_X7_122 (r_recv C0) rfl rfl ⟨Nat.le_of_ble_eq_true rfl, Nat.le_of_ble_eq_true rfl⟩ (Nat.le_of_ble_eq_true rfl) ⟨Nat.le_refl _, Nat.le_refl _⟩ dX7_begins_108 ?_
      refine j_aload_n C0 dX7_begins_111 rfl ?_
      refine r_gf_6 C0 dX7_begins_112 ?_
      refine j_iload_n C0 dX7_begins_115 rfl ?_
      refine r_ld_6 C0 (v := ((G 6) (a1).toNatClampNeg)) hs1 dX7_begins_116 rfl ?_
      refine j_callSv C0 (k_X7_lowest hl ((vX7_tugsNow F (hu (hu (hu (hu G 16 (upd (nf (bX7_begins_15 F G a1) ((G 16)) (((5 : Int32) - vX7_firstReady F G).toNatClampNeg)) ((5 : Int32)).toNatClampNeg (((G 16) ((vX7_firstReady F G)).toNatClampNeg)))) 21 (upd (G 21) ((F 20)).toNatClampNeg ((F 1)))) 22 (upd (G 22) ((F 20)).toNatClampNeg (a1))) 23 (upd (G 23) ((F 20)).toNatClampNeg (((G 16) ((vX7_firstReady F G)).toNatClampNeg)))))) (((G 6) (a1).toNatClampNeg)) ) ms_X7_lowest wm_X7_132 rfl rfl ⟨Nat.le_of_ble_eq_true rfl, Nat.le_of_ble_eq_true rfl⟩ (Nat.le_of_ble_eq_true rfl) ⟨Nat.le_refl _, Nat.le_refl _⟩ dX7_begins_117 ?_
      refine r_st_24 C0 hc dX7_begins_120 ?_
      refine j_aload_n C0 dX7_begins_121 rfl ?_
      refine r_gf_25 C0 dX7_begins_122 ?_
      refine j_aload_n C0 dX7_begins_125 rfl ?_
      refine r_gf_20 C0 (v := (F 20)) dX7_begins_126 rfl ?_
      refine j_iload C0 dX7_begins_129 rfl ?_
      refine j_if_ne C0 138 dX7_begins_131 (by decide) (fun z => absurd (by decide) z) (fun _ => ?_)
      refine j_iconst C0 (v := 1) dX7_begins_134 (by decide) ?_
      refine j_goto C0 139 dX7_begins_135 (by decide) ?_
      refine r_st_25 C0 hc dX7_begins_139 ?_
      refine j_aload_n C0 dX7_begins_140 rfl ?_
      refine j_dup C0 dX7_begins_141 rfl ?_
      refine r_gf_20 C0 (v := (F 20)) dX7_begins_142 rfl ?_
      refine j_iconst C0 (v := 1) dX7_begins_145 (by decide) ?_
      refine j_iadd C0 dX7_begins_146 ?_
      refine r_pf_20 C0 dX7_begins_147 ?_
      refine j_aload_n C0 dX7_begins_150 rfl ?_
      refine j_iload_n C0 dX7_begins_151 rfl ?_
      refine j_bipush C0 (v := 50) dX7_begins_152 (by decide) ?_
      refine j_bipush C0 (v := 30) dX7_begins_154 (by decide) ?_
      refine j_aload_n C0 dX7_begins_156 rfl ?_
      refine r_gf_6 C0 dX7_begins_157 ?_
      refine j_iload_n C0 dX7_begins_160 rfl ?_
      refine r_ld_6 C0 (v := ((G 6) (a1).toNatClampNeg)) hs1 dX7_begins_161 rfl ?_
      refine j_imul C0 dX7_begins_162 ?_
      refine j_iadd C0 dX7_begins_163 ?_
      refine j_iload C0 dX7_begins_164 rfl ?_
      refine j_if_eq C0 181 dX7_begins_166 (by decide) (fun _ => ?_) (fun z => absurd (by decide) z)
      refine j_iconst C0 (v := 0) dX7_begins_181 (by decide) ?_
      refine j_iadd C0 dX7_begins_182 ?_
      refine j_callVn C0 (k_X7_pays hl ad (hu F 20 ((F 20) + (1 : Int32))) (hu (hu (hu (hu (hu (hu G 16 (upd (nf (bX7_begins_15 F G a1) ((G 16)) (((5 : Int32) - vX7_firstReady F G).toNatClampNeg)) ((5 : Int32)).toNatClampNeg (((G 16) ((vX7_firstReady F G)).toNatClampNeg)))) 21 (upd (G 21) ((F 20)).toNatClampNeg ((F 1)))) 22 (upd (G 22) ((F 20)).toNatClampNeg (a1))) 23 (upd (G 23) ((F 20)).toNatClampNeg (((G 16) ((vX7_firstReady F G)).toNatClampNeg)))) 24 (upd (G 24) ((F 20)).toNatClampNeg ((vX7_lowest ((vX7_tugsNow F (hu (hu (hu (hu G 16 (upd (nf (bX7_begins_15 F G a1) ((G 16)) (((5 : Int32) - vX7_firstReady F G).toNatClampNeg)) ((5 : Int32)).toNatClampNeg (((G 16) ((vX7_firstReady F G)).toNatClampNeg)))) 21 (upd (G 21) ((F 20)).toNatClampNeg ((F 1)))) 22 (upd (G 22) ((F 20)).toNatClampNeg (a1))) 23 (upd (G 23) ((F 20)).toNatClampNeg (((G 16) ((vX7_firstReady F G)).toNatClampNeg)))))) (((G 6) (a1).toNatClampNeg)))))) 25 (upd (G 25) ((F 20)).toNatClampNeg (vp_nar .boolean (1 : Int32)))) (a1) ((((50 : Int32) + ((30 : Int32) * ((G 6) (a1).toNatClampNeg))) + (0 : Int32))) hs1) mv_X7_pays wm_X7_125 (r_recv C0) rfl rfl ⟨Nat.le_of_ble_eq_true rfl, Nat.le_of_ble_eq_true rfl⟩ (Nat.le_of_ble_eq_true rfl) ⟨Nat.le_refl _, Nat.le_refl _⟩ dX7_begins_183 ?_
      show J p l e _ s m args below meth c A 5 _ (OV D Y A ad (F 0) (F 1) (F 5) (F 18) (F 19) ((F 20) + (1 : Int32)) (G 2) (G 3) (G 4) (G 6) (G 7) (G 8) (G 9) (G 10) (G 11) (G 12) (upd (G 13) (a1).toNatClampNeg (((G 13) (a1).toNatClampNeg) + (((50 : Int32) + ((30 : Int32) * ((G 6) (a1).toNatClampNeg))) + (0 : Int32)))) (G 14) (G 15) (upd (nf (bX7_begins_15 F G a1) ((G 16)) (((5 : Int32) - vX7_firstReady F G).toNatClampNeg)) ((5 : Int32)).toNatClampNeg (((G 16) ((vX7_firstReady F G)).toNatClampNeg))) (G 17) (upd (G 21) ((F 20)).toNatClampNeg ((F 1))) (upd (G 22) ((F 20)).toNatClampNeg (a1)) (upd (G 23) ((F 20)).toNatClampNeg (((G 16) ((vX7_firstReady F G)).toNatClampNeg))) (upd (G 24) ((F 20)).toNatClampNeg ((vX7_lowest ((vX7_tugsNow F (hu (hu (hu (hu G 16 (upd (nf (bX7_begins_15 F G a1) ((G 16)) (((5 : Int32) - vX7_firstReady F G).toNatClampNeg)) ((5 : Int32)).toNatClampNeg (((G 16) ((vX7_firstReady F G)).toNatClampNeg)))) 21 (upd (G 21) ((F 20)).toNatClampNeg ((F 1)))) 22 (upd (G 22) ((F 20)).toNatClampNeg (a1))) 23 (upd (G 23) ((F 20)).toNatClampNeg (((G 16) ((vX7_firstReady F G)).toNatClampNeg)))))) (((G 6) (a1).toNatClampNeg))))) (upd (G 25) ((F 20)).toNatClampNeg (vp_nar .boolean (1 : Int32)))) 0 0 186 [(0, .ref (ad 0)), (1, .int (a1)), (2, .int ((vX7_firstReady F G))), (3, .int (((G 16) ((vX7_firstReady F G)).toNatClampNeg))), (4, .int ((0 : Int32)))] []
      refine j_aload_n C0 dX7_begins_186 rfl ?_
      refine r_gf_17 C0 dX7_begins_187 ?_
      refine j_iload_n C0 dX7_begins_190 rfl ?_
      refine j_dup2 C0 dX7_begins_191 rfl rfl ?_
      refine r_ld_17 C0 (v := ((G 17) (((G 16) ((vX7_firstReady F G)).toNatClampNeg)).toNatClampNeg)) hpil dX7_begins_192 rfl ?_
      refine j_bipush C0 (v := 50) dX7_begins_193 (by decide) ?_
      refine j_iadd C0 dX7_begins_195 ?_
      refine r_st_17 C0 hpil dX7_begins_196 ?_
      refine j_aload_n C0 dX7_begins_197 rfl ?_
      refine j_dup C0 dX7_begins_198 rfl ?_
      refine r_gf_18 C0 (v := (F 18)) dX7_begins_199 rfl ?_
      refine j_bipush C0 (v := 30) dX7_begins_202 (by decide) ?_
      refine j_aload_n C0 dX7_begins_204 rfl ?_
      refine r_gf_6 C0 dX7_begins_205 ?_
      refine j_iload_n C0 dX7_begins_208 rfl ?_
      refine r_ld_6 C0 (v := ((G 6) (a1).toNatClampNeg)) hs1 dX7_begins_209 rfl ?_
      refine j_imul C0 dX7_begins_210 ?_
      refine j_iadd C0 dX7_begins_211 ?_
      refine r_pf_18 C0 dX7_begins_212 ?_
      refine j_aload_n C0 dX7_begins_215 rfl ?_
      refine j_dup C0 dX7_begins_216 rfl ?_
      refine r_gf_19 C0 (v := (F 19)) dX7_begins_217 rfl ?_
      refine j_iload C0 dX7_begins_220 rfl ?_
      refine j_if_eq C0 237 dX7_begins_222 (by decide) (fun _ => ?_) (fun z => absurd (by decide) z)
      refine j_iconst C0 (v := 0) dX7_begins_237 (by decide) ?_
      refine j_iadd C0 dX7_begins_238 ?_
      refine r_pf_19 C0 dX7_begins_239 ?_
      refine j_aload_n C0 dX7_begins_242 rfl ?_
      refine r_gf_10 C0 dX7_begins_243 ?_
      refine j_iload_n C0 dX7_begins_246 rfl ?_
      refine j_iload C0 dX7_begins_247 rfl ?_
      refine j_if_eq C0 256 dX7_begins_249 (by decide) (fun _ => ?_) (fun z => absurd (by decide) z)
      refine j_iconst C0 (v := 3) dX7_begins_256 (by decide) ?_
      refine r_st_10 C0 hs1 dX7_begins_257 ?_
      refine j_aload_n C0 dX7_begins_258 rfl ?_
      refine r_gf_12 C0 dX7_begins_259 ?_
      refine j_iload_n C0 dX7_begins_262 rfl ?_
      refine j_aload_n C0 dX7_begins_263 rfl ?_
      refine r_gf_1 C0 (v := (F 1)) dX7_begins_264 rfl ?_
      refine r_st_12 C0 hs1 dX7_begins_267 ?_
      refine j_aload_n C0 dX7_begins_268 rfl ?_
      refine r_gf_11 C0 dX7_begins_269 ?_
      refine j_iload_n C0 dX7_begins_272 rfl ?_
      refine j_iconst C0 (v := -1) dX7_begins_273 (by decide) ?_
      refine r_st_11 C0 hs1 dX7_begins_274 ?_
      exact j_vret C0 rfl dX7_begins_275 (fun H h => by rw [sX7_begins, if_neg q3]; exact h)
    ·
      refine j_iconst C0 (v := 1) dX7_begins_59 (by decide) ?_
      refine j_goto C0 64 dX7_begins_60 (by decide) ?_
      refine j_istore C0 (L' := [(0, .ref (ad 0)), (1, .int (a1)), (2, .int ((vX7_firstReady F G))), (3, .int (((G 16) ((vX7_firstReady F G)).toNatClampNeg))), (4, .int ((1 : Int32)))]) dX7_begins_64 (by decide) rfl ?_
      refine j_aload_n C0 dX7_begins_66 rfl ?_
      refine r_gf_21 C0 dX7_begins_67 ?_
      refine j_aload_n C0 dX7_begins_70 rfl ?_
      refine r_gf_20 C0 (v := (F 20)) dX7_begins_71 rfl ?_
      refine j_aload_n C0 dX7_begins_74 rfl ?_
      refine r_gf_1 C0 (v := (F 1)) dX7_begins_75 rfl ?_
      refine r_st_21 C0 hc dX7_begins_78 ?_
      refine j_aload_n C0 dX7_begins_79 rfl ?_
      refine r_gf_22 C0 dX7_begins_80 ?_
      refine j_aload_n C0 dX7_begins_83 rfl ?_
      refine r_gf_20 C0 (v := (F 20)) dX7_begins_84 rfl ?_
      refine j_iload_n C0 dX7_begins_87 rfl ?_
      refine r_st_22 C0 hc dX7_begins_88 ?_
      refine j_aload_n C0 dX7_begins_89 rfl ?_
      refine r_gf_23 C0 dX7_begins_90 ?_
      refine j_aload_n C0 dX7_begins_93 rfl ?_
      refine r_gf_20 C0 (v := (F 20)) dX7_begins_94 rfl ?_
      refine j_iload_n C0 dX7_begins_97 rfl ?_
      refine r_st_23 C0 hc dX7_begins_98 ?_
      refine j_aload_n C0 dX7_begins_99 rfl ?_
      refine r_gf_24 C0 dX7_begins_100 ?_
      refine j_aload_n C0 dX7_begins_103 rfl ?_
      refine r_gf_20 C0 (v := (F 20)) dX7_begins_104 rfl ?_
      refine j_aload_n C0 dX7_begins_107 rfl ?_
      refine j_callVv C0 (k_X7_tugsNow hl ad F (hu (hu (hu (hu G 16 (upd (nf (bX7_begins_15 F G a1) ((G 16)) (((5 : Int32) - vX7_firstReady F G).toNatClampNeg)) ((5 : Int32)).toNatClampNeg (((G 16) ((vX7_firstReady F G)).toNatClampNeg)))) 21 (upd (G 21) ((F 20)).toNatClampNeg ((F 1)))) 22 (upd (G 22) ((F 20)).toNatClampNeg (a1))) 23 (upd (G 23) ((F 20)).toNatClampNeg (((G 16) ((vX7_firstReady F G)).toNatClampNeg))))  hm) mv_X7_tugsNow wm_X7_122 (r_recv C0) rfl rfl ⟨Nat.le_of_ble_eq_true rfl, Nat.le_of_ble_eq_true rfl⟩ (Nat.le_of_ble_eq_true rfl) ⟨Nat.le_refl _, Nat.le_refl _⟩ dX7_begins_108 ?_
      refine j_aload_n C0 dX7_begins_111 rfl ?_
      refine r_gf_6 C0 dX7_begins_112 ?_
      refine j_iload_n C0 dX7_begins_115 rfl ?_
      refine r_ld_6 C0 (v := ((G 6) (a1).toNatClampNeg)) hs1 dX7_begins_116 rfl ?_
      refine j_callSv C0 (k_X7_lowest hl ((vX7_tugsNow F (hu (hu (hu (hu G 16 (upd (nf (bX7_begins_15 F G a1) ((G 16)) (((5 : Int32) - vX7_firstReady F G).toNatClampNeg)) ((5 : Int32)).toNatClampNeg (((G 16) ((vX7_firstReady F G)).toNatClampNeg)))) 21 (upd (G 21) ((F 20)).toNatClampNeg ((F 1)))) 22 (upd (G 22) ((F 20)).toNatClampNeg (a1))) 23 (upd (G 23) ((F 20)).toNatClampNeg (((G 16) ((vX7_firstReady F G)).toNatClampNeg)))))) (((G 6) (a1).toNatClampNeg)) ) ms_X7_lowest wm_X7_132 rfl rfl ⟨Nat.le_of_ble_eq_true rfl, Nat.le_of_ble_eq_true rfl⟩ (Nat.le_of_ble_eq_true rfl) ⟨Nat.le_refl _, Nat.le_refl _⟩ dX7_begins_117 ?_
      refine r_st_24 C0 hc dX7_begins_120 ?_
      refine j_aload_n C0 dX7_begins_121 rfl ?_
      refine r_gf_25 C0 dX7_begins_122 ?_
      refine j_aload_n C0 dX7_begins_125 rfl ?_
      refine r_gf_20 C0 (v := (F 20)) dX7_begins_126 rfl ?_
      refine j_iload C0 dX7_begins_129 rfl ?_
      refine j_if_ne C0 138 dX7_begins_131 (by decide) (fun _ => ?_) (fun z => absurd z (by decide))
      refine j_iconst C0 (v := 0) dX7_begins_138 (by decide) ?_
      refine r_st_25 C0 hc dX7_begins_139 ?_
      refine j_aload_n C0 dX7_begins_140 rfl ?_
      refine j_dup C0 dX7_begins_141 rfl ?_
      refine r_gf_20 C0 (v := (F 20)) dX7_begins_142 rfl ?_
      refine j_iconst C0 (v := 1) dX7_begins_145 (by decide) ?_
      refine j_iadd C0 dX7_begins_146 ?_
      refine r_pf_20 C0 dX7_begins_147 ?_
      refine j_aload_n C0 dX7_begins_150 rfl ?_
      refine j_iload_n C0 dX7_begins_151 rfl ?_
      refine j_bipush C0 (v := 50) dX7_begins_152 (by decide) ?_
      refine j_bipush C0 (v := 30) dX7_begins_154 (by decide) ?_
      refine j_aload_n C0 dX7_begins_156 rfl ?_
      refine r_gf_6 C0 dX7_begins_157 ?_
      refine j_iload_n C0 dX7_begins_160 rfl ?_
      refine r_ld_6 C0 (v := ((G 6) (a1).toNatClampNeg)) hs1 dX7_begins_161 rfl ?_
      refine j_imul C0 dX7_begins_162 ?_
      refine j_iadd C0 dX7_begins_163 ?_
      refine j_iload C0 dX7_begins_164 rfl ?_
      refine j_if_eq C0 181 dX7_begins_166 (by decide) (fun z => absurd z (by decide)) (fun _ => ?_)
      refine j_bipush C0 (v := 100) dX7_begins_169 (by decide) ?_
      refine j_aload_n C0 dX7_begins_171 rfl ?_
      refine r_gf_6 C0 dX7_begins_172 ?_
      refine j_iload_n C0 dX7_begins_175 rfl ?_
      refine r_ld_6 C0 (v := ((G 6) (a1).toNatClampNeg)) hs1 dX7_begins_176 rfl ?_
      refine j_imul C0 dX7_begins_177 ?_
      refine j_goto C0 182 dX7_begins_178 (by decide) ?_
      refine j_iadd C0 dX7_begins_182 ?_
      refine j_callVn C0 (k_X7_pays hl ad (hu F 20 ((F 20) + (1 : Int32))) (hu (hu (hu (hu (hu (hu G 16 (upd (nf (bX7_begins_15 F G a1) ((G 16)) (((5 : Int32) - vX7_firstReady F G).toNatClampNeg)) ((5 : Int32)).toNatClampNeg (((G 16) ((vX7_firstReady F G)).toNatClampNeg)))) 21 (upd (G 21) ((F 20)).toNatClampNeg ((F 1)))) 22 (upd (G 22) ((F 20)).toNatClampNeg (a1))) 23 (upd (G 23) ((F 20)).toNatClampNeg (((G 16) ((vX7_firstReady F G)).toNatClampNeg)))) 24 (upd (G 24) ((F 20)).toNatClampNeg ((vX7_lowest ((vX7_tugsNow F (hu (hu (hu (hu G 16 (upd (nf (bX7_begins_15 F G a1) ((G 16)) (((5 : Int32) - vX7_firstReady F G).toNatClampNeg)) ((5 : Int32)).toNatClampNeg (((G 16) ((vX7_firstReady F G)).toNatClampNeg)))) 21 (upd (G 21) ((F 20)).toNatClampNeg ((F 1)))) 22 (upd (G 22) ((F 20)).toNatClampNeg (a1))) 23 (upd (G 23) ((F 20)).toNatClampNeg (((G 16) ((vX7_firstReady F G)).toNatClampNeg)))))) (((G 6) (a1).toNatClampNeg)))))) 25 (upd (G 25) ((F 20)).toNatClampNeg (vp_nar .boolean (0 : Int32)))) (a1) ((((50 : Int32) + ((30 : Int32) * ((G 6) (a1).toNatClampNeg))) + ((100 : Int32) * ((G 6) (a1).toNatClampNeg)))) hs1) mv_X7_pays wm_X7_125 (r_recv C0) rfl rfl ⟨Nat.le_of_ble_eq_true rfl, Nat.le_of_ble_eq_true rfl⟩ (Nat.le_of_ble_eq_true rfl) ⟨Nat.le_refl _, Nat.le_refl _⟩ dX7_begins_183 ?_
      show J p l e _ s m args below meth c A 5 _ (OV D Y A ad (F 0) (F 1) (F 5) (F 18) (F 19) ((F 20) + (1 : Int32)) (G 2) (G 3) (G 4) (G 6) (G 7) (G 8) (G 9) (G 10) (G 11) (G 12) (upd (G 13) (a1).toNatClampNeg (((G 13) (a1).toNatClampNeg) + (((50 : Int32) + ((30 : Int32) * ((G 6) (a1).toNatClampNeg))) + ((100 : Int32) * ((G 6) (a1).toNatClampNeg))))) (G 14) (G 15) (upd (nf (bX7_begins_15 F G a1) ((G 16)) (((5 : Int32) - vX7_firstReady F G).toNatClampNeg)) ((5 : Int32)).toNatClampNeg (((G 16) ((vX7_firstReady F G)).toNatClampNeg))) (G 17) (upd (G 21) ((F 20)).toNatClampNeg ((F 1))) (upd (G 22) ((F 20)).toNatClampNeg (a1)) (upd (G 23) ((F 20)).toNatClampNeg (((G 16) ((vX7_firstReady F G)).toNatClampNeg))) (upd (G 24) ((F 20)).toNatClampNeg ((vX7_lowest ((vX7_tugsNow F (hu (hu (hu (hu G 16 (upd (nf (bX7_begins_15 F G a1) ((G 16)) (((5 : Int32) - vX7_firstReady F G).toNatClampNeg)) ((5 : Int32)).toNatClampNeg (((G 16) ((vX7_firstReady F G)).toNatClampNeg)))) 21 (upd (G 21) ((F 20)).toNatClampNeg ((F 1)))) 22 (upd (G 22) ((F 20)).toNatClampNeg (a1))) 23 (upd (G 23) ((F 20)).toNatClampNeg (((G 16) ((vX7_firstReady F G)).toNatClampNeg)))))) (((G 6) (a1).toNatClampNeg))))) (upd (G 25) ((F 20)).toNatClampNeg (vp_nar .boolean (0 : Int32)))) 0 0 186 [(0, .ref (ad 0)), (1, .int (a1)), (2, .int ((vX7_firstReady F G))), (3, .int (((G 16) ((vX7_firstReady F G)).toNatClampNeg))), (4, .int ((1 : Int32)))] []
      refine j_aload_n C0 dX7_begins_186 rfl ?_
      refine r_gf_17 C0 dX7_begins_187 ?_
      refine j_iload_n C0 dX7_begins_190 rfl ?_
      refine j_dup2 C0 dX7_begins_191 rfl rfl ?_
      refine r_ld_17 C0 (v := ((G 17) (((G 16) ((vX7_firstReady F G)).toNatClampNeg)).toNatClampNeg)) hpil dX7_begins_192 rfl ?_
      refine j_bipush C0 (v := 50) dX7_begins_193 (by decide) ?_
      refine j_iadd C0 dX7_begins_195 ?_
      refine r_st_17 C0 hpil dX7_begins_196 ?_
      refine j_aload_n C0 dX7_begins_197 rfl ?_
      refine j_dup C0 dX7_begins_198 rfl ?_
      refine r_gf_18 C0 (v := (F 18)) dX7_begins_199 rfl ?_
      refine j_bipush C0 (v := 30) dX7_begins_202 (by decide) ?_
      refine j_aload_n C0 dX7_begins_204 rfl ?_
      refine r_gf_6 C0 dX7_begins_205 ?_
      refine j_iload_n C0 dX7_begins_208 rfl ?_
      refine r_ld_6 C0 (v := ((G 6) (a1).toNatClampNeg)) hs1 dX7_begins_209 rfl ?_
      refine j_imul C0 dX7_begins_210 ?_
      refine j_iadd C0 dX7_begins_211 ?_
      refine r_pf_18 C0 dX7_begins_212 ?_
      refine j_aload_n C0 dX7_begins_215 rfl ?_
      refine j_dup C0 dX7_begins_216 rfl ?_
      refine r_gf_19 C0 (v := (F 19)) dX7_begins_217 rfl ?_
      refine j_iload C0 dX7_begins_220 rfl ?_
      refine j_if_eq C0 237 dX7_begins_222 (by decide) (fun z => absurd z (by decide)) (fun _ => ?_)
      refine j_bipush C0 (v := 100) dX7_begins_225 (by decide) ?_
      refine j_aload_n C0 dX7_begins_227 rfl ?_
      refine r_gf_6 C0 dX7_begins_228 ?_
      refine j_iload_n C0 dX7_begins_231 rfl ?_
      refine r_ld_6 C0 (v := ((G 6) (a1).toNatClampNeg)) hs1 dX7_begins_232 rfl ?_
      refine j_imul C0 dX7_begins_233 ?_
      refine j_goto C0 238 dX7_begins_234 (by decide) ?_
      refine j_iadd C0 dX7_begins_238 ?_
      refine r_pf_19 C0 dX7_begins_239 ?_
      refine j_aload_n C0 dX7_begins_242 rfl ?_
      refine r_gf_10 C0 dX7_begins_243 ?_
      refine j_iload_n C0 dX7_begins_246 rfl ?_
      refine j_iload C0 dX7_begins_247 rfl ?_
      refine j_if_eq C0 256 dX7_begins_249 (by decide) (fun z => absurd z (by decide)) (fun _ => ?_)
      refine j_iconst C0 (v := 1) dX7_begins_252 (by decide) ?_
      refine j_goto C0 257 dX7_begins_253 (by decide) ?_
      refine r_st_10 C0 hs1 dX7_begins_257 ?_
      refine j_aload_n C0 dX7_begins_258 rfl ?_
      refine r_gf_12 C0 dX7_begins_259 ?_
      refine j_iload_n C0 dX7_begins_262 rfl ?_
      refine j_aload_n C0 dX7_begins_263 rfl ?_
      refine r_gf_1 C0 (v := (F 1)) dX7_begins_264 rfl ?_
      refine r_st_12 C0 hs1 dX7_begins_267 ?_
      refine j_aload_n C0 dX7_begins_268 rfl ?_
      refine r_gf_11 C0 dX7_begins_269 ?_
      refine j_iload_n C0 dX7_begins_272 rfl ?_
      refine j_iconst C0 (v := -1) dX7_begins_273 (by decide) ?_
      refine r_st_11 C0 hs1 dX7_begins_274 ?_
      exact j_vret C0 rfl dX7_begins_275 (fun H h => by rw [sX7_begins, if_pos q3]; exact h)
theorem firstReady_in (F : Nat → Int32) (G : Nat → Nat → Int32) (h : ¬ vX7_firstReady F G = -1) : vp_in (vX7_firstReady F G) 6 := by
  have key : ∀ N, N ≤ 6 → nf (bX7_firstReady_4 F G) (-1 : Int32) N = -1 ∨ vp_in (nf (bX7_firstReady_4 F G) (-1 : Int32) N) 6 := by
    intro N
    induction N with
    | zero => intro _; exact Or.inl rfl
    | succ n ih =>
      intro hn
      rw [nf, bX7_firstReady_4]
      split
      · exact ih (by omega)
      · exact Or.inr (dn_in (by omega))
  exact (key 6 (by decide)).resolve_left h
/-! ## looksAt(I)V -/
theorem cnt_lt {x : Int32} (h : ct x 100) (h2 : ¬ (100 : Int32) ≤ x) : vp_in x 100 := by
  obtain ⟨k, h1, rfl⟩ := h
  have : k < 100 := by
    rcases Nat.lt_or_ge k 100 with q | q
    · exact q
    · exact absurd (nI_le (a := 100) (b := k) q (by omega)) h2
  exact vp_in_nI this (by decide)
def sX7_looksAt (F : Nat → Int32) (G : Nat → Nat → Int32) (a1 : Int32) : (Nat → Int32) × (Nat → Nat → Int32) := (if (vX7_floats F G (a1) ((F 1))) = 0 then (if ((G 11) (a1).toNatClampNeg) = (F 1) then ((sX7_loses F G (a1)).1, (sX7_loses F G (a1)).2) else (if ((F 1) - ((G 11) (a1).toNatClampNeg)) < (3 : Int32) then (F, G) else (F, (hu (hu G 15 (upd (G 15) (a1).toNatClampNeg ((((G 15) (a1).toNatClampNeg) + (1 : Int32))))) 11 (upd (G 11) (a1).toNatClampNeg ((-1 : Int32))))))) else (if ((G 10) (a1).toNatClampNeg) = (2 : Int32) then (if (100 : Int32) ≤ (F 20) then (if ((F 1) - ((G 11) (a1).toNatClampNeg)) < (3 : Int32) then (F, G) else (F, (hu (hu G 15 (upd (G 15) (a1).toNatClampNeg ((((G 15) (a1).toNatClampNeg) + (1 : Int32))))) 11 (upd (G 11) (a1).toNatClampNeg ((-1 : Int32)))))) else (if (vX7_firstReady F G) = (-1 : Int32) then (if ((F 1) - ((G 11) (a1).toNatClampNeg)) < (3 : Int32) then (F, G) else (F, (hu (hu G 15 (upd (G 15) (a1).toNatClampNeg ((((G 15) (a1).toNatClampNeg) + (1 : Int32))))) 11 (upd (G 11) (a1).toNatClampNeg ((-1 : Int32)))))) else (if (vX7_many ((vX7_tugsNow F G))) < ((G 6) (a1).toNatClampNeg) then (if ((F 1) - ((G 11) (a1).toNatClampNeg)) < (3 : Int32) then (F, G) else (F, (hu (hu G 15 (upd (G 15) (a1).toNatClampNeg ((((G 15) (a1).toNatClampNeg) + (1 : Int32))))) 11 (upd (G 11) (a1).toNatClampNeg ((-1 : Int32)))))) else ((sX7_begins F G (a1)).1, (sX7_begins F G (a1)).2)))) else (if (vX7_isFree F G (((G 9) (a1).toNatClampNeg))) = 0 then (if ((F 1) - ((G 11) (a1).toNatClampNeg)) < (3 : Int32) then (F, G) else (F, (hu (hu G 15 (upd (G 15) (a1).toNatClampNeg ((((G 15) (a1).toNatClampNeg) + (1 : Int32))))) 11 (upd (G 11) (a1).toNatClampNeg ((-1 : Int32)))))) else (if (100 : Int32) ≤ (F 20) then (if ((F 1) - ((G 11) (a1).toNatClampNeg)) < (3 : Int32) then (F, G) else (F, (hu (hu G 15 (upd (G 15) (a1).toNatClampNeg ((((G 15) (a1).toNatClampNeg) + (1 : Int32))))) 11 (upd (G 11) (a1).toNatClampNeg ((-1 : Int32)))))) else (if (vX7_firstReady F G) = (-1 : Int32) then (if ((F 1) - ((G 11) (a1).toNatClampNeg)) < (3 : Int32) then (F, G) else (F, (hu (hu G 15 (upd (G 15) (a1).toNatClampNeg ((((G 15) (a1).toNatClampNeg) + (1 : Int32))))) 11 (upd (G 11) (a1).toNatClampNeg ((-1 : Int32)))))) else (if (vX7_many ((vX7_tugsNow F G))) < ((G 6) (a1).toNatClampNeg) then (if ((F 1) - ((G 11) (a1).toNatClampNeg)) < (3 : Int32) then (F, G) else (F, (hu (hu G 15 (upd (G 15) (a1).toNatClampNeg ((((G 15) (a1).toNatClampNeg) + (1 : Int32))))) 11 (upd (G 11) (a1).toNatClampNeg ((-1 : Int32)))))) else ((sX7_begins F G (a1)).1, (sX7_begins F G (a1)).2)))))))
set_option maxRecDepth 100000 in
set_option maxHeartbeats 4000000 in
theorem k_X7_looksAt {l : Launch} (hl : l.stackTraces = false) {D : va_G} {Y : Nat → ClassId} {A : Nat → Prop} {E : State → Prop} (ad : Nat → Nat) (F : Nat → Int32) (G : Nat → Nat → Int32) (a1 : Int32) (hI : RI F G) (hs1 : vp_in a1 30) : KM l yX7_looksAt cX7_looksAt 4 none D Y A E 3 70 0 0 [.ref (ad 0), .int (a1)] (OR D Y A ad F G) none (OR D Y A ad (sX7_looksAt F G a1).1 (sX7_looksAt F G a1).2) := by
  refine KM_of RX7 [(0, .ref (ad 0)), (1, .int (a1))] rfl (by decide) hl (Nat.le_of_ble_eq_true rfl) rfl (lok_of rfl rfl) ?_
  intro p e s m args below meth c C0
  obtain ⟨hn, hs, hm, hb, hw, hr⟩ := id hI
  obtain ⟨nn, hnn, hne⟩ := id hn
  have hh : vp_in (F 1) 3160 := by rw [hne]; exact vp_in_nI (by omega) (by decide)
  have hh1 : vp_in (F 1 + 1) 3160 := by rw [hne, nI_1]; exact vp_in_nI (by omega) (by decide)
  have hb1 := hb _ (vp_cl hs1)
  refine j_aload_n C0 dX7_looksAt_0 rfl ?_
  refine j_iload_n C0 dX7_looksAt_1 rfl ?_
  refine j_aload_n C0 dX7_looksAt_2 rfl ?_
  refine r_gf_1 C0 (v := (F 1)) dX7_looksAt_3 rfl ?_
  refine j_callVv C0 (k_X7_floats hl ad F G (a1) ((F 1)) hs1 hb1 hh hh1) mv_X7_floats wm_X7_106 (r_recv C0) rfl rfl ⟨Nat.le_of_ble_eq_true rfl, Nat.le_of_ble_eq_true rfl⟩ (Nat.le_of_ble_eq_true rfl) ⟨Nat.le_refl _, Nat.le_refl _⟩ dX7_looksAt_6 ?_
  refine j_istore_n C0 (L' := [(0, .ref (ad 0)), (1, .int (a1)), (2, .int ((vX7_floats F G (a1) ((F 1)))))]) dX7_looksAt_9 (by decide) rfl ?_
  refine j_iload_n C0 dX7_looksAt_10 rfl ?_
  refine j_if_eq C0 74 dX7_looksAt_11 (by decide) (fun (q1 : (vX7_floats F G (a1) ((F 1))) = 0) => ?_) (fun (q1 : ¬ ((vX7_floats F G (a1) ((F 1))) = 0)) => ?_)
  ·
    refine j_iconst C0 (v := 0) dX7_looksAt_74 (by decide) ?_
    refine j_istore_n C0 (L' := [(0, .ref (ad 0)), (1, .int (a1)), (2, .int ((vX7_floats F G (a1) ((F 1))))), (3, .int ((0 : Int32)))]) dX7_looksAt_75 (by decide) rfl ?_
    refine j_iload_n C0 dX7_looksAt_76 rfl ?_
    refine j_if_ne C0 101 dX7_looksAt_77 (by decide) (fun z => absurd q1 z) (fun _ => ?_)
    refine j_aload_n C0 dX7_looksAt_80 rfl ?_
    refine r_gf_11 C0 dX7_looksAt_81 ?_
    refine j_iload_n C0 dX7_looksAt_84 rfl ?_
    refine r_ld_11 C0 (v := ((G 11) (a1).toNatClampNeg)) hs1 dX7_looksAt_85 rfl ?_
    refine j_aload_n C0 dX7_looksAt_86 rfl ?_
    refine r_gf_1 C0 (v := (F 1)) dX7_looksAt_87 rfl ?_
    refine j_icmp_ne C0 101 dX7_looksAt_90 (by decide) (fun (q3 : ¬ (((G 11) (a1).toNatClampNeg) = (F 1))) => ?_) (fun (q3 : ((G 11) (a1).toNatClampNeg) = (F 1)) => ?_)
    ·
      refine j_iload_n C0 dX7_looksAt_101 rfl ?_
      refine j_if_eq C0 113 dX7_looksAt_102 (by decide) (fun _ => ?_) (fun z => absurd (by decide) z)
      refine j_aload_n C0 dX7_looksAt_113 rfl ?_
      refine r_gf_1 C0 (v := (F 1)) dX7_looksAt_114 rfl ?_
      refine j_aload_n C0 dX7_looksAt_117 rfl ?_
      refine r_gf_11 C0 dX7_looksAt_118 ?_
      refine j_iload_n C0 dX7_looksAt_121 rfl ?_
      refine r_ld_11 C0 (v := ((G 11) (a1).toNatClampNeg)) hs1 dX7_looksAt_122 rfl ?_
      refine j_isub C0 dX7_looksAt_123 ?_
      refine j_iconst C0 (v := 3) dX7_looksAt_124 (by decide) ?_
      refine j_icmp_lt C0 145 dX7_looksAt_125 (by decide) (fun (q5 : ((F 1) - ((G 11) (a1).toNatClampNeg)) < (3 : Int32)) => ?_) (fun (q5 : ¬ (((F 1) - ((G 11) (a1).toNatClampNeg)) < (3 : Int32))) => ?_)
      ·
        exact j_vret C0 rfl dX7_looksAt_145 (fun H h => by rw [sX7_looksAt, if_pos q1, if_neg q3, if_pos q5]; exact h)
      ·
        refine j_aload_n C0 dX7_looksAt_128 rfl ?_
        refine r_gf_15 C0 dX7_looksAt_129 ?_
        refine j_iload_n C0 dX7_looksAt_132 rfl ?_
        refine j_dup2 C0 dX7_looksAt_133 rfl rfl ?_
        refine r_ld_15 C0 (v := ((G 15) (a1).toNatClampNeg)) hs1 dX7_looksAt_134 rfl ?_
        refine j_iconst C0 (v := 1) dX7_looksAt_135 (by decide) ?_
        refine j_iadd C0 dX7_looksAt_136 ?_
        refine r_st_15 C0 hs1 dX7_looksAt_137 ?_
        refine j_aload_n C0 dX7_looksAt_138 rfl ?_
        refine r_gf_11 C0 dX7_looksAt_139 ?_
        refine j_iload_n C0 dX7_looksAt_142 rfl ?_
        refine j_iconst C0 (v := -1) dX7_looksAt_143 (by decide) ?_
        refine r_st_11 C0 hs1 dX7_looksAt_144 ?_
        exact j_vret C0 rfl dX7_looksAt_145 (fun H h => by rw [sX7_looksAt, if_pos q1, if_neg q3, if_neg q5]; exact h)
    ·
      refine j_aload_n C0 dX7_looksAt_93 rfl ?_
      refine j_iload_n C0 dX7_looksAt_94 rfl ?_
      refine j_callVn C0 (k_X7_loses hl ad F G (a1) hs1 hr) mv_X7_loses wm_X7_148 (r_recv C0) rfl rfl ⟨Nat.le_of_ble_eq_true rfl, Nat.le_of_ble_eq_true rfl⟩ (Nat.le_of_ble_eq_true rfl) ⟨Nat.le_refl _, Nat.le_refl _⟩ dX7_looksAt_95 ?_
      show J p l e _ s m args below meth c A 4 _ (OV D Y A ad ((sX7_loses F G (a1)).1 0) ((sX7_loses F G (a1)).1 1) ((sX7_loses F G (a1)).1 5) ((sX7_loses F G (a1)).1 18) ((sX7_loses F G (a1)).1 19) ((sX7_loses F G (a1)).1 20) ((sX7_loses F G (a1)).2 2) ((sX7_loses F G (a1)).2 3) ((sX7_loses F G (a1)).2 4) ((sX7_loses F G (a1)).2 6) ((sX7_loses F G (a1)).2 7) ((sX7_loses F G (a1)).2 8) ((sX7_loses F G (a1)).2 9) ((sX7_loses F G (a1)).2 10) ((sX7_loses F G (a1)).2 11) ((sX7_loses F G (a1)).2 12) ((sX7_loses F G (a1)).2 13) ((sX7_loses F G (a1)).2 14) ((sX7_loses F G (a1)).2 15) ((sX7_loses F G (a1)).2 16) ((sX7_loses F G (a1)).2 17) ((sX7_loses F G (a1)).2 21) ((sX7_loses F G (a1)).2 22) ((sX7_loses F G (a1)).2 23) ((sX7_loses F G (a1)).2 24) ((sX7_loses F G (a1)).2 25)) 0 0 98 [(0, .ref (ad 0)), (1, .int (a1)), (2, .int ((vX7_floats F G (a1) ((F 1))))), (3, .int ((0 : Int32)))] []
      refine j_goto C0 145 dX7_looksAt_98 (by decide) ?_
      exact j_vret C0 rfl dX7_looksAt_145 (fun H h => by rw [sX7_looksAt, if_pos q1, if_pos q3]; exact h)
  ·
    refine j_aload_n C0 dX7_looksAt_14 rfl ?_
    refine r_gf_10 C0 dX7_looksAt_15 ?_
    refine j_iload_n C0 dX7_looksAt_18 rfl ?_
    refine r_ld_10 C0 (v := ((G 10) (a1).toNatClampNeg)) hs1 dX7_looksAt_19 rfl ?_
    refine j_iconst C0 (v := 2) dX7_looksAt_20 (by decide) ?_
    refine j_icmp_eq C0 37 dX7_looksAt_21 (by decide) (fun (q6 : ((G 10) (a1).toNatClampNeg) = (2 : Int32)) => ?_) (fun (q6 : ¬ (((G 10) (a1).toNatClampNeg) = (2 : Int32))) => ?_)
    ·
      refine j_aload_n C0 dX7_looksAt_37 rfl ?_
      refine r_gf_20 C0 (v := (F 20)) dX7_looksAt_38 rfl ?_
      refine j_bipush C0 (v := 100) dX7_looksAt_41 (by decide) ?_
      refine j_icmp_ge C0 74 dX7_looksAt_43 (by decide) (fun (q7 : (100 : Int32) ≤ (F 20)) => ?_) (fun (q7 : ¬ ((100 : Int32) ≤ (F 20))) => ?_)
      ·
        refine j_iconst C0 (v := 0) dX7_looksAt_74 (by decide) ?_
        refine j_istore_n C0 (L' := [(0, .ref (ad 0)), (1, .int (a1)), (2, .int ((vX7_floats F G (a1) ((F 1))))), (3, .int ((0 : Int32)))]) dX7_looksAt_75 (by decide) rfl ?_
        refine j_iload_n C0 dX7_looksAt_76 rfl ?_
        refine j_if_ne C0 101 dX7_looksAt_77 (by decide) (fun _ => ?_) (fun z => absurd z q1)
        refine j_iload_n C0 dX7_looksAt_101 rfl ?_
        refine j_if_eq C0 113 dX7_looksAt_102 (by decide) (fun _ => ?_) (fun z => absurd (by decide) z)
        refine j_aload_n C0 dX7_looksAt_113 rfl ?_
        refine r_gf_1 C0 (v := (F 1)) dX7_looksAt_114 rfl ?_
        refine j_aload_n C0 dX7_looksAt_117 rfl ?_
        refine r_gf_11 C0 dX7_looksAt_118 ?_
        refine j_iload_n C0 dX7_looksAt_121 rfl ?_
        refine r_ld_11 C0 (v := ((G 11) (a1).toNatClampNeg)) hs1 dX7_looksAt_122 rfl ?_
        refine j_isub C0 dX7_looksAt_123 ?_
        refine j_iconst C0 (v := 3) dX7_looksAt_124 (by decide) ?_
        refine j_icmp_lt C0 145 dX7_looksAt_125 (by decide) (fun (q10 : ((F 1) - ((G 11) (a1).toNatClampNeg)) < (3 : Int32)) => ?_) (fun (q10 : ¬ (((F 1) - ((G 11) (a1).toNatClampNeg)) < (3 : Int32))) => ?_)
        ·
          exact j_vret C0 rfl dX7_looksAt_145 (fun H h => by rw [sX7_looksAt, if_neg q1, if_pos q6, if_pos q7, if_pos q10]; exact h)
        ·
          refine j_aload_n C0 dX7_looksAt_128 rfl ?_
          refine r_gf_15 C0 dX7_looksAt_129 ?_
          refine j_iload_n C0 dX7_looksAt_132 rfl ?_
          refine j_dup2 C0 dX7_looksAt_133 rfl rfl ?_
          refine r_ld_15 C0 (v := ((G 15) (a1).toNatClampNeg)) hs1 dX7_looksAt_134 rfl ?_
          refine j_iconst C0 (v := 1) dX7_looksAt_135 (by decide) ?_
          refine j_iadd C0 dX7_looksAt_136 ?_
          refine r_st_15 C0 hs1 dX7_looksAt_137 ?_
          refine j_aload_n C0 dX7_looksAt_138 rfl ?_
          refine r_gf_11 C0 dX7_looksAt_139 ?_
          refine j_iload_n C0 dX7_looksAt_142 rfl ?_
          refine j_iconst C0 (v := -1) dX7_looksAt_143 (by decide) ?_
          refine r_st_11 C0 hs1 dX7_looksAt_144 ?_
          exact j_vret C0 rfl dX7_looksAt_145 (fun H h => by rw [sX7_looksAt, if_neg q1, if_pos q6, if_pos q7, if_neg q10]; exact h)
      ·
        refine j_aload_n C0 dX7_looksAt_46 rfl ?_
        refine j_callVv C0 (k_X7_firstReady hl ad F G  hm) mv_X7_firstReady wm_X7_129 (r_recv C0) rfl rfl ⟨Nat.le_of_ble_eq_true rfl, Nat.le_of_ble_eq_true rfl⟩ (Nat.le_of_ble_eq_true rfl) ⟨Nat.le_refl _, Nat.le_refl _⟩ dX7_looksAt_47 ?_
        refine j_iconst C0 (v := -1) dX7_looksAt_50 (by decide) ?_
        refine j_icmp_eq C0 74 dX7_looksAt_51 (by decide) (fun (q11 : (vX7_firstReady F G) = (-1 : Int32)) => ?_) (fun (q11 : ¬ ((vX7_firstReady F G) = (-1 : Int32))) => ?_)
        ·
          refine j_iconst C0 (v := 0) dX7_looksAt_74 (by decide) ?_
          refine j_istore_n C0 (L' := [(0, .ref (ad 0)), (1, .int (a1)), (2, .int ((vX7_floats F G (a1) ((F 1))))), (3, .int ((0 : Int32)))]) dX7_looksAt_75 (by decide) rfl ?_
          refine j_iload_n C0 dX7_looksAt_76 rfl ?_
          refine j_if_ne C0 101 dX7_looksAt_77 (by decide) (fun _ => ?_) (fun z => absurd z q1)
          refine j_iload_n C0 dX7_looksAt_101 rfl ?_
          refine j_if_eq C0 113 dX7_looksAt_102 (by decide) (fun _ => ?_) (fun z => absurd (by decide) z)
          refine j_aload_n C0 dX7_looksAt_113 rfl ?_
          refine r_gf_1 C0 (v := (F 1)) dX7_looksAt_114 rfl ?_
          refine j_aload_n C0 dX7_looksAt_117 rfl ?_
          refine r_gf_11 C0 dX7_looksAt_118 ?_
          refine j_iload_n C0 dX7_looksAt_121 rfl ?_
          refine r_ld_11 C0 (v := ((G 11) (a1).toNatClampNeg)) hs1 dX7_looksAt_122 rfl ?_
          refine j_isub C0 dX7_looksAt_123 ?_
          refine j_iconst C0 (v := 3) dX7_looksAt_124 (by decide) ?_
          refine j_icmp_lt C0 145 dX7_looksAt_125 (by decide) (fun (q14 : ((F 1) - ((G 11) (a1).toNatClampNeg)) < (3 : Int32)) => ?_) (fun (q14 : ¬ (((F 1) - ((G 11) (a1).toNatClampNeg)) < (3 : Int32))) => ?_)
          ·
            exact j_vret C0 rfl dX7_looksAt_145 (fun H h => by rw [sX7_looksAt, if_neg q1, if_pos q6, if_neg q7, if_pos q11, if_pos q14]; exact h)
          ·
            refine j_aload_n C0 dX7_looksAt_128 rfl ?_
            refine r_gf_15 C0 dX7_looksAt_129 ?_
            refine j_iload_n C0 dX7_looksAt_132 rfl ?_
            refine j_dup2 C0 dX7_looksAt_133 rfl rfl ?_
            refine r_ld_15 C0 (v := ((G 15) (a1).toNatClampNeg)) hs1 dX7_looksAt_134 rfl ?_
            refine j_iconst C0 (v := 1) dX7_looksAt_135 (by decide) ?_
            refine j_iadd C0 dX7_looksAt_136 ?_
            refine r_st_15 C0 hs1 dX7_looksAt_137 ?_
            refine j_aload_n C0 dX7_looksAt_138 rfl ?_
            refine r_gf_11 C0 dX7_looksAt_139 ?_
            refine j_iload_n C0 dX7_looksAt_142 rfl ?_
            refine j_iconst C0 (v := -1) dX7_looksAt_143 (by decide) ?_
            refine r_st_11 C0 hs1 dX7_looksAt_144 ?_
            exact j_vret C0 rfl dX7_looksAt_145 (fun H h => by rw [sX7_looksAt, if_neg q1, if_pos q6, if_neg q7, if_pos q11, if_neg q14]; exact h)
        ·
          refine j_aload_n C0 dX7_looksAt_54 rfl ?_
          refine j_callVv C0 (k_X7_tugsNow hl ad F G  hm) mv_X7_tugsNow wm_X7_122 (r_recv C0) rfl rfl ⟨Nat.le_of_ble_eq_true rfl, Nat.le_of_ble_eq_true rfl⟩ (Nat.le_of_ble_eq_true rfl) ⟨Nat.le_refl _, Nat.le_refl _⟩ dX7_looksAt_55 ?_
          refine j_callSv C0 (k_X7_many hl ((vX7_tugsNow F G)) ) ms_X7_many wm_X7_145 rfl rfl ⟨Nat.le_of_ble_eq_true rfl, Nat.le_of_ble_eq_true rfl⟩ (Nat.le_of_ble_eq_true rfl) ⟨Nat.le_refl _, Nat.le_refl _⟩ dX7_looksAt_58 ?_
          refine j_aload_n C0 dX7_looksAt_61 rfl ?_
          refine r_gf_6 C0 dX7_looksAt_62 ?_
          refine j_iload_n C0 dX7_looksAt_65 rfl ?_
          refine r_ld_6 C0 (v := ((G 6) (a1).toNatClampNeg)) hs1 dX7_looksAt_66 rfl ?_
          refine j_icmp_lt C0 74 dX7_looksAt_67 (by decide) (fun (q15 : (vX7_many ((vX7_tugsNow F G))) < ((G 6) (a1).toNatClampNeg)) => ?_) (fun (q15 : ¬ ((vX7_many ((vX7_tugsNow F G))) < ((G 6) (a1).toNatClampNeg))) => ?_)
          ·
            refine j_iconst C0 (v := 0) dX7_looksAt_74 (by decide) ?_
            refine j_istore_n C0 (L' := [(0, .ref (ad 0)), (1, .int (a1)), (2, .int ((vX7_floats F G (a1) ((F 1))))), (3, .int ((0 : Int32)))]) dX7_looksAt_75 (by decide) rfl ?_
            refine j_iload_n C0 dX7_looksAt_76 rfl ?_
            refine j_if_ne C0 101 dX7_looksAt_77 (by decide) (fun _ => ?_) (fun z => absurd z q1)
            refine j_iload_n C0 dX7_looksAt_101 rfl ?_
            refine j_if_eq C0 113 dX7_looksAt_102 (by decide) (fun _ => ?_) (fun z => absurd (by decide) z)
            refine j_aload_n C0 dX7_looksAt_113 rfl ?_
            refine r_gf_1 C0 (v := (F 1)) dX7_looksAt_114 rfl ?_
            refine j_aload_n C0 dX7_looksAt_117 rfl ?_
            refine r_gf_11 C0 dX7_looksAt_118 ?_
            refine j_iload_n C0 dX7_looksAt_121 rfl ?_
            refine r_ld_11 C0 (v := ((G 11) (a1).toNatClampNeg)) hs1 dX7_looksAt_122 rfl ?_
            refine j_isub C0 dX7_looksAt_123 ?_
            refine j_iconst C0 (v := 3) dX7_looksAt_124 (by decide) ?_
            refine j_icmp_lt C0 145 dX7_looksAt_125 (by decide) (fun (q18 : ((F 1) - ((G 11) (a1).toNatClampNeg)) < (3 : Int32)) => ?_) (fun (q18 : ¬ (((F 1) - ((G 11) (a1).toNatClampNeg)) < (3 : Int32))) => ?_)
            ·
              exact j_vret C0 rfl dX7_looksAt_145 (fun H h => by rw [sX7_looksAt, if_neg q1, if_pos q6, if_neg q7, if_neg q11, if_pos q15, if_pos q18]; exact h)
            ·
              refine j_aload_n C0 dX7_looksAt_128 rfl ?_
              refine r_gf_15 C0 dX7_looksAt_129 ?_
              refine j_iload_n C0 dX7_looksAt_132 rfl ?_
              refine j_dup2 C0 dX7_looksAt_133 rfl rfl ?_
              refine r_ld_15 C0 (v := ((G 15) (a1).toNatClampNeg)) hs1 dX7_looksAt_134 rfl ?_
              refine j_iconst C0 (v := 1) dX7_looksAt_135 (by decide) ?_
              refine j_iadd C0 dX7_looksAt_136 ?_
              refine r_st_15 C0 hs1 dX7_looksAt_137 ?_
              refine j_aload_n C0 dX7_looksAt_138 rfl ?_
              refine r_gf_11 C0 dX7_looksAt_139 ?_
              refine j_iload_n C0 dX7_looksAt_142 rfl ?_
              refine j_iconst C0 (v := -1) dX7_looksAt_143 (by decide) ?_
              refine r_st_11 C0 hs1 dX7_looksAt_144 ?_
              exact j_vret C0 rfl dX7_looksAt_145 (fun H h => by rw [sX7_looksAt, if_neg q1, if_pos q6, if_neg q7, if_neg q11, if_pos q15, if_neg q18]; exact h)
          ·
            refine j_iconst C0 (v := 1) dX7_looksAt_70 (by decide) ?_
            refine j_goto C0 75 dX7_looksAt_71 (by decide) ?_
            refine j_istore_n C0 (L' := [(0, .ref (ad 0)), (1, .int (a1)), (2, .int ((vX7_floats F G (a1) ((F 1))))), (3, .int ((1 : Int32)))]) dX7_looksAt_75 (by decide) rfl ?_
            refine j_iload_n C0 dX7_looksAt_76 rfl ?_
            refine j_if_ne C0 101 dX7_looksAt_77 (by decide) (fun _ => ?_) (fun z => absurd z q1)
            refine j_iload_n C0 dX7_looksAt_101 rfl ?_
            refine j_if_eq C0 113 dX7_looksAt_102 (by decide) (fun z => absurd z (by decide)) (fun _ => ?_)
            refine j_aload_n C0 dX7_looksAt_105 rfl ?_
            refine j_iload_n C0 dX7_looksAt_106 rfl ?_
            refine j_callVn C0 (k_X7_begins hl ad F G (a1) hI hs1 (firstReady_in F G q11) (cnt_lt hm q7)) mv_X7_begins wm_X7_152 (r_recv C0) rfl rfl ⟨Nat.le_of_ble_eq_true rfl, Nat.le_of_ble_eq_true rfl⟩ (Nat.le_of_ble_eq_true rfl) ⟨Nat.le_refl _, Nat.le_refl _⟩ dX7_looksAt_107 ?_
            show J p l e _ s m args below meth c A 4 _ (OV D Y A ad ((sX7_begins F G (a1)).1 0) ((sX7_begins F G (a1)).1 1) ((sX7_begins F G (a1)).1 5) ((sX7_begins F G (a1)).1 18) ((sX7_begins F G (a1)).1 19) ((sX7_begins F G (a1)).1 20) ((sX7_begins F G (a1)).2 2) ((sX7_begins F G (a1)).2 3) ((sX7_begins F G (a1)).2 4) ((sX7_begins F G (a1)).2 6) ((sX7_begins F G (a1)).2 7) ((sX7_begins F G (a1)).2 8) ((sX7_begins F G (a1)).2 9) ((sX7_begins F G (a1)).2 10) ((sX7_begins F G (a1)).2 11) ((sX7_begins F G (a1)).2 12) ((sX7_begins F G (a1)).2 13) ((sX7_begins F G (a1)).2 14) ((sX7_begins F G (a1)).2 15) ((sX7_begins F G (a1)).2 16) ((sX7_begins F G (a1)).2 17) ((sX7_begins F G (a1)).2 21) ((sX7_begins F G (a1)).2 22) ((sX7_begins F G (a1)).2 23) ((sX7_begins F G (a1)).2 24) ((sX7_begins F G (a1)).2 25)) 0 0 110 [(0, .ref (ad 0)), (1, .int (a1)), (2, .int ((vX7_floats F G (a1) ((F 1))))), (3, .int ((1 : Int32)))] []
            refine j_goto C0 145 dX7_looksAt_110 (by decide) ?_
            exact j_vret C0 rfl dX7_looksAt_145 (fun H h => by rw [sX7_looksAt, if_neg q1, if_pos q6, if_neg q7, if_neg q11, if_neg q15]; exact h)
    ·
      refine j_aload_n C0 dX7_looksAt_24 rfl ?_
      refine j_aload_n C0 dX7_looksAt_25 rfl ?_
      refine r_gf_9 C0 dX7_looksAt_26 ?_
      refine j_iload_n C0 dX7_looksAt_29 rfl ?_
      refine r_ld_9 C0 (v := ((G 9) (a1).toNatClampNeg)) hs1 dX7_looksAt_30 rfl ?_
      refine j_callVv C0 (k_X7_isFree hl ad F G (((G 9) (a1).toNatClampNeg)) hs) mv_X7_isFree wm_X7_142 (r_recv C0) rfl rfl ⟨Nat.le_of_ble_eq_true rfl, Nat.le_of_ble_eq_true rfl⟩ (Nat.le_of_ble_eq_true rfl) ⟨Nat.le_refl _, Nat.le_refl _⟩ dX7_looksAt_31 ?_
      refine j_if_eq C0 74 dX7_looksAt_34 (by decide) (fun (q21 : (vX7_isFree F G (((G 9) (a1).toNatClampNeg))) = 0) => ?_) (fun (q21 : ¬ ((vX7_isFree F G (((G 9) (a1).toNatClampNeg))) = 0)) => ?_)
      ·
        refine j_iconst C0 (v := 0) dX7_looksAt_74 (by decide) ?_
        refine j_istore_n C0 (L' := [(0, .ref (ad 0)), (1, .int (a1)), (2, .int ((vX7_floats F G (a1) ((F 1))))), (3, .int ((0 : Int32)))]) dX7_looksAt_75 (by decide) rfl ?_
        refine j_iload_n C0 dX7_looksAt_76 rfl ?_
        refine j_if_ne C0 101 dX7_looksAt_77 (by decide) (fun _ => ?_) (fun z => absurd z q1)
        refine j_iload_n C0 dX7_looksAt_101 rfl ?_
        refine j_if_eq C0 113 dX7_looksAt_102 (by decide) (fun _ => ?_) (fun z => absurd (by decide) z)
        refine j_aload_n C0 dX7_looksAt_113 rfl ?_
        refine r_gf_1 C0 (v := (F 1)) dX7_looksAt_114 rfl ?_
        refine j_aload_n C0 dX7_looksAt_117 rfl ?_
        refine r_gf_11 C0 dX7_looksAt_118 ?_
        refine j_iload_n C0 dX7_looksAt_121 rfl ?_
        refine r_ld_11 C0 (v := ((G 11) (a1).toNatClampNeg)) hs1 dX7_looksAt_122 rfl ?_
        refine j_isub C0 dX7_looksAt_123 ?_
        refine j_iconst C0 (v := 3) dX7_looksAt_124 (by decide) ?_
        refine j_icmp_lt C0 145 dX7_looksAt_125 (by decide) (fun (q24 : ((F 1) - ((G 11) (a1).toNatClampNeg)) < (3 : Int32)) => ?_) (fun (q24 : ¬ (((F 1) - ((G 11) (a1).toNatClampNeg)) < (3 : Int32))) => ?_)
        ·
          exact j_vret C0 rfl dX7_looksAt_145 (fun H h => by rw [sX7_looksAt, if_neg q1, if_neg q6, if_pos q21, if_pos q24]; exact h)
        ·
          refine j_aload_n C0 dX7_looksAt_128 rfl ?_
          refine r_gf_15 C0 dX7_looksAt_129 ?_
          refine j_iload_n C0 dX7_looksAt_132 rfl ?_
          refine j_dup2 C0 dX7_looksAt_133 rfl rfl ?_
          refine r_ld_15 C0 (v := ((G 15) (a1).toNatClampNeg)) hs1 dX7_looksAt_134 rfl ?_
          refine j_iconst C0 (v := 1) dX7_looksAt_135 (by decide) ?_
          refine j_iadd C0 dX7_looksAt_136 ?_
          refine r_st_15 C0 hs1 dX7_looksAt_137 ?_
          refine j_aload_n C0 dX7_looksAt_138 rfl ?_
          refine r_gf_11 C0 dX7_looksAt_139 ?_
          refine j_iload_n C0 dX7_looksAt_142 rfl ?_
          refine j_iconst C0 (v := -1) dX7_looksAt_143 (by decide) ?_
          refine r_st_11 C0 hs1 dX7_looksAt_144 ?_
          exact j_vret C0 rfl dX7_looksAt_145 (fun H h => by rw [sX7_looksAt, if_neg q1, if_neg q6, if_pos q21, if_neg q24]; exact h)
      ·
        refine j_aload_n C0 dX7_looksAt_37 rfl ?_
        refine r_gf_20 C0 (v := (F 20)) dX7_looksAt_38 rfl ?_
        refine j_bipush C0 (v := 100) dX7_looksAt_41 (by decide) ?_
        refine j_icmp_ge C0 74 dX7_looksAt_43 (by decide) (fun (q25 : (100 : Int32) ≤ (F 20)) => ?_) (fun (q25 : ¬ ((100 : Int32) ≤ (F 20))) => ?_)
        ·
          refine j_iconst C0 (v := 0) dX7_looksAt_74 (by decide) ?_
          refine j_istore_n C0 (L' := [(0, .ref (ad 0)), (1, .int (a1)), (2, .int ((vX7_floats F G (a1) ((F 1))))), (3, .int ((0 : Int32)))]) dX7_looksAt_75 (by decide) rfl ?_
          refine j_iload_n C0 dX7_looksAt_76 rfl ?_
          refine j_if_ne C0 101 dX7_looksAt_77 (by decide) (fun _ => ?_) (fun z => absurd z q1)
          refine j_iload_n C0 dX7_looksAt_101 rfl ?_
          refine j_if_eq C0 113 dX7_looksAt_102 (by decide) (fun _ => ?_) (fun z => absurd (by decide) z)
          refine j_aload_n C0 dX7_looksAt_113 rfl ?_
          refine r_gf_1 C0 (v := (F 1)) dX7_looksAt_114 rfl ?_
          refine j_aload_n C0 dX7_looksAt_117 rfl ?_
          refine r_gf_11 C0 dX7_looksAt_118 ?_
          refine j_iload_n C0 dX7_looksAt_121 rfl ?_
          refine r_ld_11 C0 (v := ((G 11) (a1).toNatClampNeg)) hs1 dX7_looksAt_122 rfl ?_
          refine j_isub C0 dX7_looksAt_123 ?_
          refine j_iconst C0 (v := 3) dX7_looksAt_124 (by decide) ?_
          refine j_icmp_lt C0 145 dX7_looksAt_125 (by decide) (fun (q28 : ((F 1) - ((G 11) (a1).toNatClampNeg)) < (3 : Int32)) => ?_) (fun (q28 : ¬ (((F 1) - ((G 11) (a1).toNatClampNeg)) < (3 : Int32))) => ?_)
          ·
            exact j_vret C0 rfl dX7_looksAt_145 (fun H h => by rw [sX7_looksAt, if_neg q1, if_neg q6, if_neg q21, if_pos q25, if_pos q28]; exact h)
          ·
            refine j_aload_n C0 dX7_looksAt_128 rfl ?_
            refine r_gf_15 C0 dX7_looksAt_129 ?_
            refine j_iload_n C0 dX7_looksAt_132 rfl ?_
            refine j_dup2 C0 dX7_looksAt_133 rfl rfl ?_
            refine r_ld_15 C0 (v := ((G 15) (a1).toNatClampNeg)) hs1 dX7_looksAt_134 rfl ?_
            refine j_iconst C0 (v := 1) dX7_looksAt_135 (by decide) ?_
            refine j_iadd C0 dX7_looksAt_136 ?_
            refine r_st_15 C0 hs1 dX7_looksAt_137 ?_
            refine j_aload_n C0 dX7_looksAt_138 rfl ?_
            refine r_gf_11 C0 dX7_looksAt_139 ?_
            refine j_iload_n C0 dX7_looksAt_142 rfl ?_
            refine j_iconst C0 (v := -1) dX7_looksAt_143 (by decide) ?_
            refine r_st_11 C0 hs1 dX7_looksAt_144 ?_
            exact j_vret C0 rfl dX7_looksAt_145 (fun H h => by rw [sX7_looksAt, if_neg q1, if_neg q6, if_neg q21, if_pos q25, if_neg q28]; exact h)
        ·
          refine j_aload_n C0 dX7_looksAt_46 rfl ?_
          refine j_callVv C0 (k_X7_firstReady hl ad F G  hm) mv_X7_firstReady wm_X7_129 (r_recv C0) rfl rfl ⟨Nat.le_of_ble_eq_true rfl, Nat.le_of_ble_eq_true rfl⟩ (Nat.le_of_ble_eq_true rfl) ⟨Nat.le_refl _, Nat.le_refl _⟩ dX7_looksAt_47 ?_
          refine j_iconst C0 (v := -1) dX7_looksAt_50 (by decide) ?_
          refine j_icmp_eq C0 74 dX7_looksAt_51 (by decide) (fun (q29 : (vX7_firstReady F G) = (-1 : Int32)) => ?_) (fun (q29 : ¬ ((vX7_firstReady F G) = (-1 : Int32))) => ?_)
          ·
            refine j_iconst C0 (v := 0) dX7_looksAt_74 (by decide) ?_
            refine j_istore_n C0 (L' := [(0, .ref (ad 0)), (1, .int (a1)), (2, .int ((vX7_floats F G (a1) ((F 1))))), (3, .int ((0 : Int32)))]) dX7_looksAt_75 (by decide) rfl ?_
            refine j_iload_n C0 dX7_looksAt_76 rfl ?_
            refine j_if_ne C0 101 dX7_looksAt_77 (by decide) (fun _ => ?_) (fun z => absurd z q1)
            refine j_iload_n C0 dX7_looksAt_101 rfl ?_
            refine j_if_eq C0 113 dX7_looksAt_102 (by decide) (fun _ => ?_) (fun z => absurd (by decide) z)
            refine j_aload_n C0 dX7_looksAt_113 rfl ?_
            refine r_gf_1 C0 (v := (F 1)) dX7_looksAt_114 rfl ?_
            refine j_aload_n C0 dX7_looksAt_117 rfl ?_
            refine r_gf_11 C0 dX7_looksAt_118 ?_
            refine j_iload_n C0 dX7_looksAt_121 rfl ?_
            refine r_ld_11 C0 (v := ((G 11) (a1).toNatClampNeg)) hs1 dX7_looksAt_122 rfl ?_
            refine j_isub C0 dX7_looksAt_123 ?_
            refine j_iconst C0 (v := 3) dX7_looksAt_124 (by decide) ?_
            refine j_icmp_lt C0 145 dX7_looksAt_125 (by decide) (fun (q32 : ((F 1) - ((G 11) (a1).toNatClampNeg)) < (3 : Int32)) => ?_) (fun (q32 : ¬ (((F 1) - ((G 11) (a1).toNatClampNeg)) < (3 : Int32))) => ?_)
            ·
              exact j_vret C0 rfl dX7_looksAt_145 (fun H h => by rw [sX7_looksAt, if_neg q1, if_neg q6, if_neg q21, if_neg q25, if_pos q29, if_pos q32]; exact h)
            ·
              refine j_aload_n C0 dX7_looksAt_128 rfl ?_
              refine r_gf_15 C0 dX7_looksAt_129 ?_
              refine j_iload_n C0 dX7_looksAt_132 rfl ?_
              refine j_dup2 C0 dX7_looksAt_133 rfl rfl ?_
              refine r_ld_15 C0 (v := ((G 15) (a1).toNatClampNeg)) hs1 dX7_looksAt_134 rfl ?_
              refine j_iconst C0 (v := 1) dX7_looksAt_135 (by decide) ?_
              refine j_iadd C0 dX7_looksAt_136 ?_
              refine r_st_15 C0 hs1 dX7_looksAt_137 ?_
              refine j_aload_n C0 dX7_looksAt_138 rfl ?_
              refine r_gf_11 C0 dX7_looksAt_139 ?_
              refine j_iload_n C0 dX7_looksAt_142 rfl ?_
              refine j_iconst C0 (v := -1) dX7_looksAt_143 (by decide) ?_
              refine r_st_11 C0 hs1 dX7_looksAt_144 ?_
              exact j_vret C0 rfl dX7_looksAt_145 (fun H h => by rw [sX7_looksAt, if_neg q1, if_neg q6, if_neg q21, if_neg q25, if_pos q29, if_neg q32]; exact h)
          ·
            refine j_aload_n C0 dX7_looksAt_54 rfl ?_
            refine j_callVv C0 (k_X7_tugsNow hl ad F G  hm) mv_X7_tugsNow wm_X7_122 (r_recv C0) rfl rfl ⟨Nat.le_of_ble_eq_true rfl, Nat.le_of_ble_eq_true rfl⟩ (Nat.le_of_ble_eq_true rfl) ⟨Nat.le_refl _, Nat.le_refl _⟩ dX7_looksAt_55 ?_
            refine j_callSv C0 (k_X7_many hl ((vX7_tugsNow F G)) ) ms_X7_many wm_X7_145 rfl rfl ⟨Nat.le_of_ble_eq_true rfl, Nat.le_of_ble_eq_true rfl⟩ (Nat.le_of_ble_eq_true rfl) ⟨Nat.le_refl _, Nat.le_refl _⟩ dX7_looksAt_58 ?_
            refine j_aload_n C0 dX7_looksAt_61 rfl ?_
            refine r_gf_6 C0 dX7_looksAt_62 ?_
            refine j_iload_n C0 dX7_looksAt_65 rfl ?_
            refine r_ld_6 C0 (v := ((G 6) (a1).toNatClampNeg)) hs1 dX7_looksAt_66 rfl ?_
            refine j_icmp_lt C0 74 dX7_looksAt_67 (by decide) (fun (q33 : (vX7_many ((vX7_tugsNow F G))) < ((G 6) (a1).toNatClampNeg)) => ?_) (fun (q33 : ¬ ((vX7_many ((vX7_tugsNow F G))) < ((G 6) (a1).toNatClampNeg))) => ?_)
            ·
              refine j_iconst C0 (v := 0) dX7_looksAt_74 (by decide) ?_
              refine j_istore_n C0 (L' := [(0, .ref (ad 0)), (1, .int (a1)), (2, .int ((vX7_floats F G (a1) ((F 1))))), (3, .int ((0 : Int32)))]) dX7_looksAt_75 (by decide) rfl ?_
              refine j_iload_n C0 dX7_looksAt_76 rfl ?_
              refine j_if_ne C0 101 dX7_looksAt_77 (by decide) (fun _ => ?_) (fun z => absurd z q1)
              refine j_iload_n C0 dX7_looksAt_101 rfl ?_
              refine j_if_eq C0 113 dX7_looksAt_102 (by decide) (fun _ => ?_) (fun z => absurd (by decide) z)
              refine j_aload_n C0 dX7_looksAt_113 rfl ?_
              refine r_gf_1 C0 (v := (F 1)) dX7_looksAt_114 rfl ?_
              refine j_aload_n C0 dX7_looksAt_117 rfl ?_
              refine r_gf_11 C0 dX7_looksAt_118 ?_
              refine j_iload_n C0 dX7_looksAt_121 rfl ?_
              refine r_ld_11 C0 (v := ((G 11) (a1).toNatClampNeg)) hs1 dX7_looksAt_122 rfl ?_
              refine j_isub C0 dX7_looksAt_123 ?_
              refine j_iconst C0 (v := 3) dX7_looksAt_124 (by decide) ?_
              refine j_icmp_lt C0 145 dX7_looksAt_125 (by decide) (fun (q36 : ((F 1) - ((G 11) (a1).toNatClampNeg)) < (3 : Int32)) => ?_) (fun (q36 : ¬ (((F 1) - ((G 11) (a1).toNatClampNeg)) < (3 : Int32))) => ?_)
              ·
                exact j_vret C0 rfl dX7_looksAt_145 (fun H h => by rw [sX7_looksAt, if_neg q1, if_neg q6, if_neg q21, if_neg q25, if_neg q29, if_pos q33, if_pos q36]; exact h)
              ·
                refine j_aload_n C0 dX7_looksAt_128 rfl ?_
                refine r_gf_15 C0 dX7_looksAt_129 ?_
                refine j_iload_n C0 dX7_looksAt_132 rfl ?_
                refine j_dup2 C0 dX7_looksAt_133 rfl rfl ?_
                refine r_ld_15 C0 (v := ((G 15) (a1).toNatClampNeg)) hs1 dX7_looksAt_134 rfl ?_
                refine j_iconst C0 (v := 1) dX7_looksAt_135 (by decide) ?_
                refine j_iadd C0 dX7_looksAt_136 ?_
                refine r_st_15 C0 hs1 dX7_looksAt_137 ?_
                refine j_aload_n C0 dX7_looksAt_138 rfl ?_
                refine r_gf_11 C0 dX7_looksAt_139 ?_
                refine j_iload_n C0 dX7_looksAt_142 rfl ?_
                refine j_iconst C0 (v := -1) dX7_looksAt_143 (by decide) ?_
                refine r_st_11 C0 hs1 dX7_looksAt_144 ?_
                exact j_vret C0 rfl dX7_looksAt_145 (fun H h => by rw [sX7_looksAt, if_neg q1, if_neg q6, if_neg q21, if_neg q25, if_neg q29, if_pos q33, if_neg q36]; exact h)
            ·
              refine j_iconst C0 (v := 1) dX7_looksAt_70 (by decide) ?_
              refine j_goto C0 75 dX7_looksAt_71 (by decide) ?_
              refine j_istore_n C0 (L' := [(0, .ref (ad 0)), (1, .int (a1)), (2, .int ((vX7_floats F G (a1) ((F 1))))), (3, .int ((1 : Int32)))]) dX7_looksAt_75 (by decide) rfl ?_
              refine j_iload_n C0 dX7_looksAt_76 rfl ?_
              refine j_if_ne C0 101 dX7_looksAt_77 (by decide) (fun _ => ?_) (fun z => absurd z q1)
              refine j_iload_n C0 dX7_looksAt_101 rfl ?_
              refine j_if_eq C0 113 dX7_looksAt_102 (by decide) (fun z => absurd z (by decide)) (fun _ => ?_)
              refine j_aload_n C0 dX7_looksAt_105 rfl ?_
              refine j_iload_n C0 dX7_looksAt_106 rfl ?_
              refine j_callVn C0 (k_X7_begins hl ad F G (a1) hI hs1 (firstReady_in F G q29) (cnt_lt hm q25)) mv_X7_begins wm_X7_152 (r_recv C0) rfl rfl ⟨Nat.le_of_ble_eq_true rfl, Nat.le_of_ble_eq_true rfl⟩ (Nat.le_of_ble_eq_true rfl) ⟨Nat.le_refl _, Nat.le_refl _⟩ dX7_looksAt_107 ?_
              show J p l e _ s m args below meth c A 4 _ (OV D Y A ad ((sX7_begins F G (a1)).1 0) ((sX7_begins F G (a1)).1 1) ((sX7_begins F G (a1)).1 5) ((sX7_begins F G (a1)).1 18) ((sX7_begins F G (a1)).1 19) ((sX7_begins F G (a1)).1 20) ((sX7_begins F G (a1)).2 2) ((sX7_begins F G (a1)).2 3) ((sX7_begins F G (a1)).2 4) ((sX7_begins F G (a1)).2 6) ((sX7_begins F G (a1)).2 7) ((sX7_begins F G (a1)).2 8) ((sX7_begins F G (a1)).2 9) ((sX7_begins F G (a1)).2 10) ((sX7_begins F G (a1)).2 11) ((sX7_begins F G (a1)).2 12) ((sX7_begins F G (a1)).2 13) ((sX7_begins F G (a1)).2 14) ((sX7_begins F G (a1)).2 15) ((sX7_begins F G (a1)).2 16) ((sX7_begins F G (a1)).2 17) ((sX7_begins F G (a1)).2 21) ((sX7_begins F G (a1)).2 22) ((sX7_begins F G (a1)).2 23) ((sX7_begins F G (a1)).2 24) ((sX7_begins F G (a1)).2 25)) 0 0 110 [(0, .ref (ad 0)), (1, .int (a1)), (2, .int ((vX7_floats F G (a1) ((F 1))))), (3, .int ((1 : Int32)))] []
              refine j_goto C0 145 dX7_looksAt_110 (by decide) ?_
              exact j_vret C0 rfl dX7_looksAt_145 (fun H h => by rw [sX7_looksAt, if_neg q1, if_neg q6, if_neg q21, if_neg q25, if_neg q29, if_neg q33]; exact h)
end
section
theorem rot_in {F : Nat → Int32} {G : Nat → Nat → Int32} {a1 : Int32} {pn : Nat} (hpe : vX7_firstReady F G = nI pn) (hpn : pn < 6) (hr : ∀ j, j < 6 → vp_in (G 16 j) 6) : ∀ N, N ≤ 5 - pn → ∀ j, j < 6 → vp_in (nf (bX7_begins_15 F G a1) (G 16) N j) 6 := by
  intro N
  induction N with
  | zero => intro _; exact hr
  | succ n ih =>
    intro hn j hj
    rw [nf, bX7_begins_15]
    unfold upd
    split
    · refine ih (by omega) _ ?_
      rw [hpe, nI_add, nI_1, nI_clamp (by omega)]
      omega
    · exact ih (by omega) j hj
theorem begins_inv {F : Nat → Int32} {G : Nat → Nat → Int32} {a1 : Int32} (hI : RI F G) (hs1 : vp_in a1 30) (hp : vp_in (vX7_firstReady F G) 6) (hc : vp_in (F 20) 100) : RI (sX7_begins F G a1).1 (sX7_begins F G a1).2 ∧ (sX7_begins F G a1).1 1 = F 1 ∧ (sX7_begins F G a1).1 5 = F 5 := by
  obtain ⟨hn, hs, hm, hb, hw, hr⟩ := hI
  obtain ⟨pn, hpn, hpe⟩ := vp_in_of hp (by decide)
  obtain ⟨k, hk, hke⟩ := vp_in_of hc (by decide)
  have hN : ((5 : Int32) - vX7_firstReady F G).toNatClampNeg = 5 - pn := by rw [hpe, show (5 : Int32) = nI 5 from rfl, pk_sub (by omega), nI_clamp (by omega)]
  have h20 : ct (F 20 + (1 : Int32)) 100 := ⟨k + 1, hk, by rw [hke, nI_1]⟩
  have h22 : ∀ j, j < 100 → vp_in (upd (G 22) (F 20).toNatClampNeg a1 j) 30 := by
    intro j hj
    unfold upd
    split
    · exact hs1
    · exact hw j hj
  have h16 : ∀ j, j < 6 → vp_in (upd (nf (bX7_begins_15 F G a1) (G 16) ((5 : Int32) - vX7_firstReady F G).toNatClampNeg) (5 : Int32).toNatClampNeg (G 16 (vX7_firstReady F G).toNatClampNeg) j) 6 := by
    intro j hj
    unfold upd
    split
    · exact hr _ (vp_cl hp)
    · exact rot_in hpe hpn hr _ (by rw [hN]; exact Nat.le_refl _) j hj
  unfold sX7_begins
  split
  · exact ⟨⟨hn, hs, h20, hb, h22, h16⟩, rfl, rfl⟩
  · exact ⟨⟨hn, hs, h20, hb, h22, h16⟩, rfl, rfl⟩
theorem looksAt_inv {F : Nat → Int32} {G : Nat → Nat → Int32} {a1 : Int32} (hI : RI F G) (hs1 : vp_in a1 30) : RI (sX7_looksAt F G a1).1 (sX7_looksAt F G a1).2 ∧ (sX7_looksAt F G a1).1 1 = F 1 ∧ (sX7_looksAt F G a1).1 5 = F 5 := by
  obtain ⟨hn, hs, hm, hb, hw, hr⟩ := id hI
  unfold sX7_looksAt
  repeat' split
  all_goals first
    | exact ⟨hI, rfl, rfl⟩
    | exact ⟨⟨hn, hs, hm, hb, hw, hr⟩, rfl, rfl⟩
    | exact begins_inv hI hs1 (firstReady_in F G (by assumption)) (cnt_lt hm (by assumption))
def PI (F : Nat → Int32) (v : Int32 × (Nat → Int32) × (Nat → Nat → Int32)) : Prop := RI v.2.1 v.2.2 ∧ v.2.1 1 = F 1 + (1 : Int32) ∧ v.2.1 5 = F 5
/-! ## passes()V -/
def bX7_passes_12 (F : Nat → Int32) (G : Nat → Nat → Int32) (j12 : Nat) (v12 : Int32 × (Nat → Int32) × (Nat → Int32)) : Int32 × (Nat → Int32) × (Nat → Int32) := match v12 with | (v12_0, v12_1, v12_2) => (if (v12_1 (nI j12).toNatClampNeg) = (1 : Int32) then (if (((F 1) + (1 : Int32)) - ((G 12) (nI j12).toNatClampNeg)) < (2 : Int32) then (if ((upd v12_1 (nI j12).toNatClampNeg (((v12_1 (nI j12).toNatClampNeg) + (0 : Int32)))) (nI j12).toNatClampNeg) = (2 : Int32) then ((v12_0 + ((5 : Int32) * ((G 6) (nI j12).toNatClampNeg))), (upd v12_1 (nI j12).toNatClampNeg (((v12_1 (nI j12).toNatClampNeg) + (0 : Int32)))), (upd v12_2 (nI j12).toNatClampNeg ((v12_2 (nI j12).toNatClampNeg) + ((5 : Int32) * ((G 6) (nI j12).toNatClampNeg))))) else (v12_0, (upd v12_1 (nI j12).toNatClampNeg (((v12_1 (nI j12).toNatClampNeg) + (0 : Int32)))), v12_2)) else (if ((upd v12_1 (nI j12).toNatClampNeg (((v12_1 (nI j12).toNatClampNeg) + (1 : Int32)))) (nI j12).toNatClampNeg) = (2 : Int32) then ((v12_0 + ((5 : Int32) * ((G 6) (nI j12).toNatClampNeg))), (upd v12_1 (nI j12).toNatClampNeg (((v12_1 (nI j12).toNatClampNeg) + (1 : Int32)))), (upd v12_2 (nI j12).toNatClampNeg ((v12_2 (nI j12).toNatClampNeg) + ((5 : Int32) * ((G 6) (nI j12).toNatClampNeg))))) else (v12_0, (upd v12_1 (nI j12).toNatClampNeg (((v12_1 (nI j12).toNatClampNeg) + (1 : Int32)))), v12_2))) else (if (v12_1 (nI j12).toNatClampNeg) = (3 : Int32) then (if (((F 1) + (1 : Int32)) - ((G 12) (nI j12).toNatClampNeg)) < (2 : Int32) then (if ((upd v12_1 (nI j12).toNatClampNeg (((v12_1 (nI j12).toNatClampNeg) + (0 : Int32)))) (nI j12).toNatClampNeg) = (2 : Int32) then ((v12_0 + ((5 : Int32) * ((G 6) (nI j12).toNatClampNeg))), (upd v12_1 (nI j12).toNatClampNeg (((v12_1 (nI j12).toNatClampNeg) + (0 : Int32)))), (upd v12_2 (nI j12).toNatClampNeg ((v12_2 (nI j12).toNatClampNeg) + ((5 : Int32) * ((G 6) (nI j12).toNatClampNeg))))) else (v12_0, (upd v12_1 (nI j12).toNatClampNeg (((v12_1 (nI j12).toNatClampNeg) + (0 : Int32)))), v12_2)) else (if ((upd v12_1 (nI j12).toNatClampNeg (((v12_1 (nI j12).toNatClampNeg) + (1 : Int32)))) (nI j12).toNatClampNeg) = (2 : Int32) then ((v12_0 + ((5 : Int32) * ((G 6) (nI j12).toNatClampNeg))), (upd v12_1 (nI j12).toNatClampNeg (((v12_1 (nI j12).toNatClampNeg) + (1 : Int32)))), (upd v12_2 (nI j12).toNatClampNeg ((v12_2 (nI j12).toNatClampNeg) + ((5 : Int32) * ((G 6) (nI j12).toNatClampNeg))))) else (v12_0, (upd v12_1 (nI j12).toNatClampNeg (((v12_1 (nI j12).toNatClampNeg) + (1 : Int32)))), v12_2))) else (if ((upd v12_1 (nI j12).toNatClampNeg (((v12_1 (nI j12).toNatClampNeg) + (0 : Int32)))) (nI j12).toNatClampNeg) = (2 : Int32) then ((v12_0 + ((5 : Int32) * ((G 6) (nI j12).toNatClampNeg))), (upd v12_1 (nI j12).toNatClampNeg (((v12_1 (nI j12).toNatClampNeg) + (0 : Int32)))), (upd v12_2 (nI j12).toNatClampNeg ((v12_2 (nI j12).toNatClampNeg) + ((5 : Int32) * ((G 6) (nI j12).toNatClampNeg))))) else (v12_0, (upd v12_1 (nI j12).toNatClampNeg (((v12_1 (nI j12).toNatClampNeg) + (0 : Int32)))), v12_2))))
def bX7_passes_142 (F : Nat → Int32) (G : Nat → Nat → Int32) (j129 : Nat) (v129_0 : Int32) (v129_1 : Nat → Int32) (v129_2 : Nat → Nat → Int32) (j142 : Nat) (v142 : Int32) : Int32 := (if ((v129_2 11) (nI j142).toNatClampNeg) = (-1 : Int32) then (v142) else (if (v129_1 1) < ((v129_2 11) (nI j142).toNatClampNeg) then (v142) else (if ((v129_0 >>> (nI j142 &&& 31)) &&& (1 : Int32)) = 0 then (if v142 = (-1 : Int32) then (nI j142) else (if (vX7_isAhead v129_1 v129_2 (nI j142) (v142)) = 0 then (v142) else (nI j142))) else (v142))))
def bX7_passes_129 (F : Nat → Int32) (G : Nat → Nat → Int32) (j129 : Nat) (v129 : Int32 × (Nat → Int32) × (Nat → Nat → Int32)) : Int32 × (Nat → Int32) × (Nat → Nat → Int32) := match v129 with | (v129_0, v129_1, v129_2) => (if (nf (bX7_passes_142 F G j129 v129_0 v129_1 v129_2) ((-1 : Int32)) (((v129_1 5)).toNatClampNeg)) = (-1 : Int32) then (v129_0, v129_1, v129_2) else ((v129_0 ||| ((1 : Int32) <<< ((nf (bX7_passes_142 F G j129 v129_0 v129_1 v129_2) ((-1 : Int32)) (((v129_1 5)).toNatClampNeg)) &&& 31))), (sX7_looksAt v129_1 v129_2 ((nf (bX7_passes_142 F G j129 v129_0 v129_1 v129_2) ((-1 : Int32)) (((v129_1 5)).toNatClampNeg)))).1, (sX7_looksAt v129_1 v129_2 ((nf (bX7_passes_142 F G j129 v129_0 v129_1 v129_2) ((-1 : Int32)) (((v129_1 5)).toNatClampNeg)))).2))
def sX7_passes (F : Nat → Int32) (G : Nat → Nat → Int32) : (Nat → Int32) × (Nat → Nat → Int32) := ((nf (bX7_passes_129 F G) ((0 : Int32), (hu (hu F 1 ((F 1) + (1 : Int32))) 19 (nf (bX7_passes_12 F G) ((F 19), (G 10), (G 13)) ((F 5).toNatClampNeg)).1), (hu (hu G 10 (nf (bX7_passes_12 F G) ((F 19), (G 10), (G 13)) ((F 5).toNatClampNeg)).2.1) 13 (nf (bX7_passes_12 F G) ((F 19), (G 10), (G 13)) ((F 5).toNatClampNeg)).2.2)) (((F 5)).toNatClampNeg)).2.1, (nf (bX7_passes_129 F G) ((0 : Int32), (hu (hu F 1 ((F 1) + (1 : Int32))) 19 (nf (bX7_passes_12 F G) ((F 19), (G 10), (G 13)) ((F 5).toNatClampNeg)).1), (hu (hu G 10 (nf (bX7_passes_12 F G) ((F 19), (G 10), (G 13)) ((F 5).toNatClampNeg)).2.1) 13 (nf (bX7_passes_12 F G) ((F 19), (G 10), (G 13)) ((F 5).toNatClampNeg)).2.2)) (((F 5)).toNatClampNeg)).2.2)
theorem passes_in (F : Nat → Int32) (G : Nat → Nat → Int32) (j129 : Nat) (v0 : Int32) (v1 : Nat → Int32) (v2 : Nat → Nat → Int32) : ∀ N, N ≤ 30 → nf (bX7_passes_142 F G j129 v0 v1 v2) (-1 : Int32) N = -1 ∨ vp_in (nf (bX7_passes_142 F G j129 v0 v1 v2) (-1 : Int32) N) 30 := by
  intro N
  induction N with
  | zero => intro _; exact Or.inl rfl
  | succ n ih =>
    intro hn
    rw [nf, bX7_passes_142]
    repeat' split
    all_goals first | exact ih (by omega) | exact Or.inr (vp_in_nI (by omega) (by decide))
theorem passes_inv (F : Nat → Int32) (G : Nat → Nat → Int32) (init : Int32 × (Nat → Int32) × (Nat → Nat → Int32)) (h0 : PI F init) : ∀ N, PI F (nf (bX7_passes_129 F G) init N) := by
  intro N
  induction N with
  | zero => exact h0
  | succ n ih =>
    rw [nf]
    generalize nf (bX7_passes_129 F G) init n = v at ih ⊢
    obtain ⟨v0, v1, v2⟩ := v
    obtain ⟨h1, h2, h3⟩ := ih
    dsimp only at h1 h2 h3
    rw [bX7_passes_129]
    have hin := passes_in F G n v0 v1 v2 (v1 5).toNatClampNeg (h1.2.1.cl (by decide))
    split
    · exact ⟨h1, h2, h3⟩
    · rename_i hq
      obtain ⟨k1, k2, k3⟩ := looksAt_inv h1 (hin.resolve_left hq)
      exact ⟨k1, k2.trans h2, k3.trans h3⟩
set_option maxRecDepth 100000 in
set_option maxHeartbeats 4000000 in
theorem k_X7_passes {l : Launch} (hl : l.stackTraces = false) {D : va_G} {Y : Nat → ClassId} {A : Nat → Prop} {E : State → Prop} (ad : Nat → Nat) (F : Nat → Int32) (G : Nat → Nat → Int32)  (hI : RI F G) (hn1 : ct (F 1 + (1 : Int32)) 3000) : KM l yX7_passes cX7_passes 6 none D Y A E 4 93 0 0 [.ref (ad 0)] (OR D Y A ad F G) none (OR D Y A ad (sX7_passes F G).1 (sX7_passes F G).2) := by
  refine KM_of RX7 [(0, .ref (ad 0))] rfl (by decide) hl (Nat.le_of_ble_eq_true rfl) rfl (lok_of rfl rfl) ?_
  intro p e s m args below meth c C0
  obtain ⟨hn, hs, hm, hb, hw, hr⟩ := id hI
  have hsc := hs.cl (by decide)
  refine j_aload_n C0 dX7_passes_0 rfl ?_
  refine j_dup C0 dX7_passes_1 rfl ?_
  refine r_gf_1 C0 (v := (F 1)) dX7_passes_2 rfl ?_
  refine j_iconst C0 (v := 1) dX7_passes_5 (by decide) ?_
  refine j_iadd C0 dX7_passes_6 ?_
  refine r_pf_1 C0 dX7_passes_7 ?_
  refine j_iconst C0 (v := 0) dX7_passes_10 (by decide) ?_
  refine j_istore_n C0 (L' := [(0, .ref (ad 0)), (1, .int ((0 : Int32)))]) dX7_passes_11 (by decide) rfl ?_
  refine hb_lp (P := fun (j : Nat) (v : Int32 × (Nat → Int32) × (Nat → Int32)) => J p l e _ s m args below meth c A 6 _ (OV D Y A ad (F 0) ((F 1) + (1 : Int32)) (F 5) (F 18) v.1 (F 20) (G 2) (G 3) (G 4) (G 6) (G 7) (G 8) (G 9) v.2.1 (G 11) (G 12) v.2.2 (G 14) (G 15) (G 16) (G 17) (G 21) (G 22) (G 23) (G 24) (G 25)) 0 0 12 [(0, .ref (ad 0)), (1, .int (nI j))] []) (bX7_passes_12 F G) ((F 19), (G 10), (G 13)) ((F 5).toNatClampNeg) ?_ ?_
  ·
    intro j12 hj12 K12
    generalize nf (bX7_passes_12 F G) ((F 19), (G 10), (G 13)) j12 = v12 at K12 ⊢
    obtain ⟨v12_0, v12_1, v12_2⟩ := v12
    show J p l e _ s m args below meth c A 6 _ (OV D Y A ad (F 0) ((F 1) + (1 : Int32)) (F 5) (F 18) v12_0 (F 20) (G 2) (G 3) (G 4) (G 6) (G 7) (G 8) (G 9) v12_1 (G 11) (G 12) v12_2 (G 14) (G 15) (G 16) (G 17) (G 21) (G 22) (G 23) (G 24) (G 25)) 0 0 12 [(0, .ref (ad 0)), (1, .int (nI j12))] []
    replace K12 : J p l e _ s m args below meth c A 6 _ (OV D Y A ad (F 0) ((F 1) + (1 : Int32)) (F 5) (F 18) (bX7_passes_12 F G j12 (v12_0, v12_1, v12_2)).1 (F 20) (G 2) (G 3) (G 4) (G 6) (G 7) (G 8) (G 9) (bX7_passes_12 F G j12 (v12_0, v12_1, v12_2)).2.1 (G 11) (G 12) (bX7_passes_12 F G j12 (v12_0, v12_1, v12_2)).2.2 (G 14) (G 15) (G 16) (G 17) (G 21) (G 22) (G 23) (G 24) (G 25)) 0 0 12 [(0, .ref (ad 0)), (1, .int (nI (j12 + 1)))] [] := K12
    refine j_iload_n C0 dX7_passes_12 rfl ?_
    refine j_aload_n C0 dX7_passes_13 rfl ?_
    refine r_gf_5 C0 (v := (F 5)) dX7_passes_14 rfl ?_
    refine j_icmp_ge C0 125 dX7_passes_17 (by decide) (fun z => absurd z (cl_lt rfl hj12)) (fun _ => ?_)
    refine j_aload_n C0 dX7_passes_20 rfl ?_
    refine r_gf_10 C0 dX7_passes_21 ?_
    refine j_iload_n C0 dX7_passes_24 rfl ?_
    refine r_ld_10 C0 (v := (v12_1 (nI j12).toNatClampNeg)) (vp_nI (by omega) (by decide)) dX7_passes_25 rfl ?_
    refine j_iconst C0 (v := 1) dX7_passes_26 (by decide) ?_
    refine j_icmp_eq C0 40 dX7_passes_27 (by decide) (fun (q2 : (v12_1 (nI j12).toNatClampNeg) = (1 : Int32)) => ?_) (fun (q2 : ¬ ((v12_1 (nI j12).toNatClampNeg) = (1 : Int32))) => ?_)
    ·
      refine j_aload_n C0 dX7_passes_40 rfl ?_
      refine r_gf_1 C0 (v := ((F 1) + (1 : Int32))) dX7_passes_41 rfl ?_
      refine j_aload_n C0 dX7_passes_44 rfl ?_
      refine r_gf_12 C0 dX7_passes_45 ?_
      refine j_iload_n C0 dX7_passes_48 rfl ?_
      refine r_ld_12 C0 (v := ((G 12) (nI j12).toNatClampNeg)) (vp_nI (by omega) (by decide)) dX7_passes_49 rfl ?_
      refine j_isub C0 dX7_passes_50 ?_
      refine j_iconst C0 (v := 2) dX7_passes_51 (by decide) ?_
      refine j_icmp_lt C0 59 dX7_passes_52 (by decide) (fun (q3 : (((F 1) + (1 : Int32)) - ((G 12) (nI j12).toNatClampNeg)) < (2 : Int32)) => ?_) (fun (q3 : ¬ ((((F 1) + (1 : Int32)) - ((G 12) (nI j12).toNatClampNeg)) < (2 : Int32))) => ?_)
      ·
        refine j_iconst C0 (v := 0) dX7_passes_59 (by decide) ?_
        refine j_istore_n C0 (L' := [(0, .ref (ad 0)), (1, .int (nI j12)), (2, .int ((0 : Int32)))]) dX7_passes_60 (by decide) rfl ?_
        refine j_aload_n C0 dX7_passes_61 rfl ?_
        refine r_gf_10 C0 dX7_passes_62 ?_
        refine j_iload_n C0 dX7_passes_65 rfl ?_
        refine j_dup2 C0 dX7_passes_66 rfl rfl ?_
        refine r_ld_10 C0 (v := (v12_1 (nI j12).toNatClampNeg)) (vp_nI (by omega) (by decide)) dX7_passes_67 rfl ?_
        refine j_iload_n C0 dX7_passes_68 rfl ?_
        refine j_if_eq C0 76 dX7_passes_69 (by decide) (fun _ => ?_) (fun z => absurd (by decide) z)
        refine j_iconst C0 (v := 0) dX7_passes_76 (by decide) ?_
        refine j_iadd C0 dX7_passes_77 ?_
        refine r_st_10 C0 (vp_nI (by omega) (by decide)) dX7_passes_78 ?_
        refine j_aload_n C0 dX7_passes_79 rfl ?_
        refine r_gf_10 C0 dX7_passes_80 ?_
        refine j_iload_n C0 dX7_passes_83 rfl ?_
        refine r_ld_10 C0 (v := ((upd v12_1 (nI j12).toNatClampNeg (((v12_1 (nI j12).toNatClampNeg) + (0 : Int32)))) (nI j12).toNatClampNeg)) (vp_nI (by omega) (by decide)) dX7_passes_84 rfl ?_
        refine j_iconst C0 (v := 2) dX7_passes_85 (by decide) ?_
        refine j_icmp_ne C0 119 dX7_passes_86 (by decide) (fun (q5 : ¬ (((upd v12_1 (nI j12).toNatClampNeg (((v12_1 (nI j12).toNatClampNeg) + (0 : Int32)))) (nI j12).toNatClampNeg) = (2 : Int32))) => ?_) (fun (q5 : ((upd v12_1 (nI j12).toNatClampNeg (((v12_1 (nI j12).toNatClampNeg) + (0 : Int32)))) (nI j12).toNatClampNeg) = (2 : Int32)) => ?_)
        ·
          refine j_iinc C0 (v := nI (j12 + 1)) (L' := [(0, .ref (ad 0)), (1, .int (nI (j12 + 1))), (2, .int ((0 : Int32)))]) dX7_passes_119 rfl (nI_inc j12) (by decide) rfl ?_
          refine j_goto C0 12 dX7_passes_122 (by decide) ?_
          rw [bX7_passes_12, if_pos q2, if_pos q3, if_neg q5] at K12
          refine j_locals (L' := [(0, .ref (ad 0)), (1, .int (nI (j12 + 1)))]) (fun q hq => by simp only [List.mem_cons, List.mem_nil_iff, or_false] at hq ⊢; rcases hq with rfl | rfl <;> simp) (lok_of rfl rfl) ?_
          exact K12
        ·
          refine j_aload_n C0 dX7_passes_89 rfl ?_
          refine j_iload_n C0 dX7_passes_90 rfl ?_
          refine j_iconst C0 (v := 5) dX7_passes_91 (by decide) ?_
          refine j_aload_n C0 dX7_passes_92 rfl ?_
          refine r_gf_6 C0 dX7_passes_93 ?_
          refine j_iload_n C0 dX7_passes_96 rfl ?_
          refine r_ld_6 C0 (v := ((G 6) (nI j12).toNatClampNeg)) (vp_nI (by omega) (by decide)) dX7_passes_97 rfl ?_
          refine j_imul C0 dX7_passes_98 ?_
          refine j_callVn C0 (k_X7_pays hl ad (hu (hu F 1 ((F 1) + (1 : Int32))) 19 v12_0) (hu (hu G 10 (upd v12_1 (nI j12).toNatClampNeg (((v12_1 (nI j12).toNatClampNeg) + (0 : Int32))))) 13 v12_2) (nI j12) (((5 : Int32) * ((G 6) (nI j12).toNatClampNeg))) (vp_nI (by omega) (by decide))) mv_X7_pays wm_X7_125 (r_recv C0) rfl rfl ⟨Nat.le_of_ble_eq_true rfl, Nat.le_of_ble_eq_true rfl⟩ (Nat.le_of_ble_eq_true rfl) ⟨Nat.le_refl _, Nat.le_refl _⟩ dX7_passes_99 ?_
          show J p l e _ s m args below meth c A 6 _ (OV D Y A ad (F 0) ((F 1) + (1 : Int32)) (F 5) (F 18) v12_0 (F 20) (G 2) (G 3) (G 4) (G 6) (G 7) (G 8) (G 9) (upd v12_1 (nI j12).toNatClampNeg (((v12_1 (nI j12).toNatClampNeg) + (0 : Int32)))) (G 11) (G 12) (upd v12_2 (nI j12).toNatClampNeg ((v12_2 (nI j12).toNatClampNeg) + ((5 : Int32) * ((G 6) (nI j12).toNatClampNeg)))) (G 14) (G 15) (G 16) (G 17) (G 21) (G 22) (G 23) (G 24) (G 25)) 0 0 102 [(0, .ref (ad 0)), (1, .int (nI j12)), (2, .int ((0 : Int32)))] []
          refine j_aload_n C0 dX7_passes_102 rfl ?_
          refine j_dup C0 dX7_passes_103 rfl ?_
          refine r_gf_19 C0 (v := v12_0) dX7_passes_104 rfl ?_
          refine j_iconst C0 (v := 5) dX7_passes_107 (by decide) ?_
          refine j_aload_n C0 dX7_passes_108 rfl ?_
          refine r_gf_6 C0 dX7_passes_109 ?_
          refine j_iload_n C0 dX7_passes_112 rfl ?_
          refine r_ld_6 C0 (v := ((G 6) (nI j12).toNatClampNeg)) (vp_nI (by omega) (by decide)) dX7_passes_113 rfl ?_
          refine j_imul C0 dX7_passes_114 ?_
          refine j_iadd C0 dX7_passes_115 ?_
          refine r_pf_19 C0 dX7_passes_116 ?_
          refine j_iinc C0 (v := nI (j12 + 1)) (L' := [(0, .ref (ad 0)), (1, .int (nI (j12 + 1))), (2, .int ((0 : Int32)))]) dX7_passes_119 rfl (nI_inc j12) (by decide) rfl ?_
          refine j_goto C0 12 dX7_passes_122 (by decide) ?_
          rw [bX7_passes_12, if_pos q2, if_pos q3, if_pos q5] at K12
          refine j_locals (L' := [(0, .ref (ad 0)), (1, .int (nI (j12 + 1)))]) (fun q hq => by simp only [List.mem_cons, List.mem_nil_iff, or_false] at hq ⊢; rcases hq with rfl | rfl <;> simp) (lok_of rfl rfl) ?_
          exact K12
      ·
        refine j_iconst C0 (v := 1) dX7_passes_55 (by decide) ?_
        refine j_goto C0 60 dX7_passes_56 (by decide) ?_
        refine j_istore_n C0 (L' := [(0, .ref (ad 0)), (1, .int (nI j12)), (2, .int ((1 : Int32)))]) dX7_passes_60 (by decide) rfl ?_
        refine j_aload_n C0 dX7_passes_61 rfl ?_
        refine r_gf_10 C0 dX7_passes_62 ?_
        refine j_iload_n C0 dX7_passes_65 rfl ?_
        refine j_dup2 C0 dX7_passes_66 rfl rfl ?_
        refine r_ld_10 C0 (v := (v12_1 (nI j12).toNatClampNeg)) (vp_nI (by omega) (by decide)) dX7_passes_67 rfl ?_
        refine j_iload_n C0 dX7_passes_68 rfl ?_
        refine j_if_eq C0 76 dX7_passes_69 (by decide) (fun z => absurd z (by decide)) (fun _ => ?_)
        refine j_iconst C0 (v := 1) dX7_passes_72 (by decide) ?_
        refine j_goto C0 77 dX7_passes_73 (by decide) ?_
        refine j_iadd C0 dX7_passes_77 ?_
        refine r_st_10 C0 (vp_nI (by omega) (by decide)) dX7_passes_78 ?_
        refine j_aload_n C0 dX7_passes_79 rfl ?_
        refine r_gf_10 C0 dX7_passes_80 ?_
        refine j_iload_n C0 dX7_passes_83 rfl ?_
        refine r_ld_10 C0 (v := ((upd v12_1 (nI j12).toNatClampNeg (((v12_1 (nI j12).toNatClampNeg) + (1 : Int32)))) (nI j12).toNatClampNeg)) (vp_nI (by omega) (by decide)) dX7_passes_84 rfl ?_
        refine j_iconst C0 (v := 2) dX7_passes_85 (by decide) ?_
        refine j_icmp_ne C0 119 dX7_passes_86 (by decide) (fun (q7 : ¬ (((upd v12_1 (nI j12).toNatClampNeg (((v12_1 (nI j12).toNatClampNeg) + (1 : Int32)))) (nI j12).toNatClampNeg) = (2 : Int32))) => ?_) (fun (q7 : ((upd v12_1 (nI j12).toNatClampNeg (((v12_1 (nI j12).toNatClampNeg) + (1 : Int32)))) (nI j12).toNatClampNeg) = (2 : Int32)) => ?_)
        ·
          refine j_iinc C0 (v := nI (j12 + 1)) (L' := [(0, .ref (ad 0)), (1, .int (nI (j12 + 1))), (2, .int ((1 : Int32)))]) dX7_passes_119 rfl (nI_inc j12) (by decide) rfl ?_
          refine j_goto C0 12 dX7_passes_122 (by decide) ?_
          rw [bX7_passes_12, if_pos q2, if_neg q3, if_neg q7] at K12
          refine j_locals (L' := [(0, .ref (ad 0)), (1, .int (nI (j12 + 1)))]) (fun q hq => by simp only [List.mem_cons, List.mem_nil_iff, or_false] at hq ⊢; rcases hq with rfl | rfl <;> simp) (lok_of rfl rfl) ?_
          exact K12
        ·
          refine j_aload_n C0 dX7_passes_89 rfl ?_
          refine j_iload_n C0 dX7_passes_90 rfl ?_
          refine j_iconst C0 (v := 5) dX7_passes_91 (by decide) ?_
          refine j_aload_n C0 dX7_passes_92 rfl ?_
          refine r_gf_6 C0 dX7_passes_93 ?_
          refine j_iload_n C0 dX7_passes_96 rfl ?_
          refine r_ld_6 C0 (v := ((G 6) (nI j12).toNatClampNeg)) (vp_nI (by omega) (by decide)) dX7_passes_97 rfl ?_
          refine j_imul C0 dX7_passes_98 ?_
          refine j_callVn C0 (k_X7_pays hl ad (hu (hu F 1 ((F 1) + (1 : Int32))) 19 v12_0) (hu (hu G 10 (upd v12_1 (nI j12).toNatClampNeg (((v12_1 (nI j12).toNatClampNeg) + (1 : Int32))))) 13 v12_2) (nI j12) (((5 : Int32) * ((G 6) (nI j12).toNatClampNeg))) (vp_nI (by omega) (by decide))) mv_X7_pays wm_X7_125 (r_recv C0) rfl rfl ⟨Nat.le_of_ble_eq_true rfl, Nat.le_of_ble_eq_true rfl⟩ (Nat.le_of_ble_eq_true rfl) ⟨Nat.le_refl _, Nat.le_refl _⟩ dX7_passes_99 ?_
          show J p l e _ s m args below meth c A 6 _ (OV D Y A ad (F 0) ((F 1) + (1 : Int32)) (F 5) (F 18) v12_0 (F 20) (G 2) (G 3) (G 4) (G 6) (G 7) (G 8) (G 9) (upd v12_1 (nI j12).toNatClampNeg (((v12_1 (nI j12).toNatClampNeg) + (1 : Int32)))) (G 11) (G 12) (upd v12_2 (nI j12).toNatClampNeg ((v12_2 (nI j12).toNatClampNeg) + ((5 : Int32) * ((G 6) (nI j12).toNatClampNeg)))) (G 14) (G 15) (G 16) (G 17) (G 21) (G 22) (G 23) (G 24) (G 25)) 0 0 102 [(0, .ref (ad 0)), (1, .int (nI j12)), (2, .int ((1 : Int32)))] []
          refine j_aload_n C0 dX7_passes_102 rfl ?_
          refine j_dup C0 dX7_passes_103 rfl ?_
          refine r_gf_19 C0 (v := v12_0) dX7_passes_104 rfl ?_
          refine j_iconst C0 (v := 5) dX7_passes_107 (by decide) ?_
          refine j_aload_n C0 dX7_passes_108 rfl ?_
          refine r_gf_6 C0 dX7_passes_109 ?_
          refine j_iload_n C0 dX7_passes_112 rfl ?_
          refine r_ld_6 C0 (v := ((G 6) (nI j12).toNatClampNeg)) (vp_nI (by omega) (by decide)) dX7_passes_113 rfl ?_
          refine j_imul C0 dX7_passes_114 ?_
          refine j_iadd C0 dX7_passes_115 ?_
          refine r_pf_19 C0 dX7_passes_116 ?_
          refine j_iinc C0 (v := nI (j12 + 1)) (L' := [(0, .ref (ad 0)), (1, .int (nI (j12 + 1))), (2, .int ((1 : Int32)))]) dX7_passes_119 rfl (nI_inc j12) (by decide) rfl ?_
          refine j_goto C0 12 dX7_passes_122 (by decide) ?_
          rw [bX7_passes_12, if_pos q2, if_neg q3, if_pos q7] at K12
          refine j_locals (L' := [(0, .ref (ad 0)), (1, .int (nI (j12 + 1)))]) (fun q hq => by simp only [List.mem_cons, List.mem_nil_iff, or_false] at hq ⊢; rcases hq with rfl | rfl <;> simp) (lok_of rfl rfl) ?_
          exact K12
    ·
      refine j_aload_n C0 dX7_passes_30 rfl ?_
      refine r_gf_10 C0 dX7_passes_31 ?_
      refine j_iload_n C0 dX7_passes_34 rfl ?_
      refine r_ld_10 C0 (v := (v12_1 (nI j12).toNatClampNeg)) (vp_nI (by omega) (by decide)) dX7_passes_35 rfl ?_
      refine j_iconst C0 (v := 3) dX7_passes_36 (by decide) ?_
      refine j_icmp_ne C0 59 dX7_passes_37 (by decide) (fun (q8 : ¬ ((v12_1 (nI j12).toNatClampNeg) = (3 : Int32))) => ?_) (fun (q8 : (v12_1 (nI j12).toNatClampNeg) = (3 : Int32)) => ?_)
      ·
        refine j_iconst C0 (v := 0) dX7_passes_59 (by decide) ?_
        refine j_istore_n C0 (L' := [(0, .ref (ad 0)), (1, .int (nI j12)), (2, .int ((0 : Int32)))]) dX7_passes_60 (by decide) rfl ?_
        refine j_aload_n C0 dX7_passes_61 rfl ?_
        refine r_gf_10 C0 dX7_passes_62 ?_
        refine j_iload_n C0 dX7_passes_65 rfl ?_
        refine j_dup2 C0 dX7_passes_66 rfl rfl ?_
        refine r_ld_10 C0 (v := (v12_1 (nI j12).toNatClampNeg)) (vp_nI (by omega) (by decide)) dX7_passes_67 rfl ?_
        refine j_iload_n C0 dX7_passes_68 rfl ?_
        refine j_if_eq C0 76 dX7_passes_69 (by decide) (fun _ => ?_) (fun z => absurd (by decide) z)
        refine j_iconst C0 (v := 0) dX7_passes_76 (by decide) ?_
        refine j_iadd C0 dX7_passes_77 ?_
        refine r_st_10 C0 (vp_nI (by omega) (by decide)) dX7_passes_78 ?_
        refine j_aload_n C0 dX7_passes_79 rfl ?_
        refine r_gf_10 C0 dX7_passes_80 ?_
        refine j_iload_n C0 dX7_passes_83 rfl ?_
        refine r_ld_10 C0 (v := ((upd v12_1 (nI j12).toNatClampNeg (((v12_1 (nI j12).toNatClampNeg) + (0 : Int32)))) (nI j12).toNatClampNeg)) (vp_nI (by omega) (by decide)) dX7_passes_84 rfl ?_
        refine j_iconst C0 (v := 2) dX7_passes_85 (by decide) ?_
        refine j_icmp_ne C0 119 dX7_passes_86 (by decide) (fun (q10 : ¬ (((upd v12_1 (nI j12).toNatClampNeg (((v12_1 (nI j12).toNatClampNeg) + (0 : Int32)))) (nI j12).toNatClampNeg) = (2 : Int32))) => ?_) (fun (q10 : ((upd v12_1 (nI j12).toNatClampNeg (((v12_1 (nI j12).toNatClampNeg) + (0 : Int32)))) (nI j12).toNatClampNeg) = (2 : Int32)) => ?_)
        ·
          refine j_iinc C0 (v := nI (j12 + 1)) (L' := [(0, .ref (ad 0)), (1, .int (nI (j12 + 1))), (2, .int ((0 : Int32)))]) dX7_passes_119 rfl (nI_inc j12) (by decide) rfl ?_
          refine j_goto C0 12 dX7_passes_122 (by decide) ?_
          rw [bX7_passes_12, if_neg q2, if_neg q8, if_neg q10] at K12
          refine j_locals (L' := [(0, .ref (ad 0)), (1, .int (nI (j12 + 1)))]) (fun q hq => by simp only [List.mem_cons, List.mem_nil_iff, or_false] at hq ⊢; rcases hq with rfl | rfl <;> simp) (lok_of rfl rfl) ?_
          exact K12
        ·
          refine j_aload_n C0 dX7_passes_89 rfl ?_
          refine j_iload_n C0 dX7_passes_90 rfl ?_
          refine j_iconst C0 (v := 5) dX7_passes_91 (by decide) ?_
          refine j_aload_n C0 dX7_passes_92 rfl ?_
          refine r_gf_6 C0 dX7_passes_93 ?_
          refine j_iload_n C0 dX7_passes_96 rfl ?_
          refine r_ld_6 C0 (v := ((G 6) (nI j12).toNatClampNeg)) (vp_nI (by omega) (by decide)) dX7_passes_97 rfl ?_
          refine j_imul C0 dX7_passes_98 ?_
          refine j_callVn C0 (k_X7_pays hl ad (hu (hu F 1 ((F 1) + (1 : Int32))) 19 v12_0) (hu (hu G 10 (upd v12_1 (nI j12).toNatClampNeg (((v12_1 (nI j12).toNatClampNeg) + (0 : Int32))))) 13 v12_2) (nI j12) (((5 : Int32) * ((G 6) (nI j12).toNatClampNeg))) (vp_nI (by omega) (by decide))) mv_X7_pays wm_X7_125 (r_recv C0) rfl rfl ⟨Nat.le_of_ble_eq_true rfl, Nat.le_of_ble_eq_true rfl⟩ (Nat.le_of_ble_eq_true rfl) ⟨Nat.le_refl _, Nat.le_refl _⟩ dX7_passes_99 ?_
          show J p l e _ s m args below meth c A 6 _ (OV D Y A ad (F 0) ((F 1) + (1 : Int32)) (F 5) (F 18) v12_0 (F 20) (G 2) (G 3) (G 4) (G 6) (G 7) (G 8) (G 9) (upd v12_1 (nI j12).toNatClampNeg (((v12_1 (nI j12).toNatClampNeg) + (0 : Int32)))) (G 11) (G 12) (upd v12_2 (nI j12).toNatClampNeg ((v12_2 (nI j12).toNatClampNeg) + ((5 : Int32) * ((G 6) (nI j12).toNatClampNeg)))) (G 14) (G 15) (G 16) (G 17) (G 21) (G 22) (G 23) (G 24) (G 25)) 0 0 102 [(0, .ref (ad 0)), (1, .int (nI j12)), (2, .int ((0 : Int32)))] []
          refine j_aload_n C0 dX7_passes_102 rfl ?_
          refine j_dup C0 dX7_passes_103 rfl ?_
          refine r_gf_19 C0 (v := v12_0) dX7_passes_104 rfl ?_
          refine j_iconst C0 (v := 5) dX7_passes_107 (by decide) ?_
          refine j_aload_n C0 dX7_passes_108 rfl ?_
          refine r_gf_6 C0 dX7_passes_109 ?_
          refine j_iload_n C0 dX7_passes_112 rfl ?_
          refine r_ld_6 C0 (v := ((G 6) (nI j12).toNatClampNeg)) (vp_nI (by omega) (by decide)) dX7_passes_113 rfl ?_
          refine j_imul C0 dX7_passes_114 ?_
          refine j_iadd C0 dX7_passes_115 ?_
          refine r_pf_19 C0 dX7_passes_116 ?_
          refine j_iinc C0 (v := nI (j12 + 1)) (L' := [(0, .ref (ad 0)), (1, .int (nI (j12 + 1))), (2, .int ((0 : Int32)))]) dX7_passes_119 rfl (nI_inc j12) (by decide) rfl ?_
          refine j_goto C0 12 dX7_passes_122 (by decide) ?_
          rw [bX7_passes_12, if_neg q2, if_neg q8, if_pos q10] at K12
          refine j_locals (L' := [(0, .ref (ad 0)), (1, .int (nI (j12 + 1)))]) (fun q hq => by simp only [List.mem_cons, List.mem_nil_iff, or_false] at hq ⊢; rcases hq with rfl | rfl <;> simp) (lok_of rfl rfl) ?_
          exact K12
      ·
        refine j_aload_n C0 dX7_passes_40 rfl ?_
        refine r_gf_1 C0 (v := ((F 1) + (1 : Int32))) dX7_passes_41 rfl ?_
        refine j_aload_n C0 dX7_passes_44 rfl ?_
        refine r_gf_12 C0 dX7_passes_45 ?_
        refine j_iload_n C0 dX7_passes_48 rfl ?_
        refine r_ld_12 C0 (v := ((G 12) (nI j12).toNatClampNeg)) (vp_nI (by omega) (by decide)) dX7_passes_49 rfl ?_
        refine j_isub C0 dX7_passes_50 ?_
        refine j_iconst C0 (v := 2) dX7_passes_51 (by decide) ?_
        refine j_icmp_lt C0 59 dX7_passes_52 (by decide) (fun (q11 : (((F 1) + (1 : Int32)) - ((G 12) (nI j12).toNatClampNeg)) < (2 : Int32)) => ?_) (fun (q11 : ¬ ((((F 1) + (1 : Int32)) - ((G 12) (nI j12).toNatClampNeg)) < (2 : Int32))) => ?_)
        ·
          refine j_iconst C0 (v := 0) dX7_passes_59 (by decide) ?_
          refine j_istore_n C0 (L' := [(0, .ref (ad 0)), (1, .int (nI j12)), (2, .int ((0 : Int32)))]) dX7_passes_60 (by decide) rfl ?_
          refine j_aload_n C0 dX7_passes_61 rfl ?_
          refine r_gf_10 C0 dX7_passes_62 ?_
          refine j_iload_n C0 dX7_passes_65 rfl ?_
          refine j_dup2 C0 dX7_passes_66 rfl rfl ?_
          refine r_ld_10 C0 (v := (v12_1 (nI j12).toNatClampNeg)) (vp_nI (by omega) (by decide)) dX7_passes_67 rfl ?_
          refine j_iload_n C0 dX7_passes_68 rfl ?_
          refine j_if_eq C0 76 dX7_passes_69 (by decide) (fun _ => ?_) (fun z => absurd (by decide) z)
          refine j_iconst C0 (v := 0) dX7_passes_76 (by decide) ?_
          refine j_iadd C0 dX7_passes_77 ?_
          refine r_st_10 C0 (vp_nI (by omega) (by decide)) dX7_passes_78 ?_
          refine j_aload_n C0 dX7_passes_79 rfl ?_
          refine r_gf_10 C0 dX7_passes_80 ?_
          refine j_iload_n C0 dX7_passes_83 rfl ?_
          refine r_ld_10 C0 (v := ((upd v12_1 (nI j12).toNatClampNeg (((v12_1 (nI j12).toNatClampNeg) + (0 : Int32)))) (nI j12).toNatClampNeg)) (vp_nI (by omega) (by decide)) dX7_passes_84 rfl ?_
          refine j_iconst C0 (v := 2) dX7_passes_85 (by decide) ?_
          refine j_icmp_ne C0 119 dX7_passes_86 (by decide) (fun (q13 : ¬ (((upd v12_1 (nI j12).toNatClampNeg (((v12_1 (nI j12).toNatClampNeg) + (0 : Int32)))) (nI j12).toNatClampNeg) = (2 : Int32))) => ?_) (fun (q13 : ((upd v12_1 (nI j12).toNatClampNeg (((v12_1 (nI j12).toNatClampNeg) + (0 : Int32)))) (nI j12).toNatClampNeg) = (2 : Int32)) => ?_)
          ·
            refine j_iinc C0 (v := nI (j12 + 1)) (L' := [(0, .ref (ad 0)), (1, .int (nI (j12 + 1))), (2, .int ((0 : Int32)))]) dX7_passes_119 rfl (nI_inc j12) (by decide) rfl ?_
            refine j_goto C0 12 dX7_passes_122 (by decide) ?_
            rw [bX7_passes_12, if_neg q2, if_pos q8, if_pos q11, if_neg q13] at K12
            refine j_locals (L' := [(0, .ref (ad 0)), (1, .int (nI (j12 + 1)))]) (fun q hq => by simp only [List.mem_cons, List.mem_nil_iff, or_false] at hq ⊢; rcases hq with rfl | rfl <;> simp) (lok_of rfl rfl) ?_
            exact K12
          ·
            refine j_aload_n C0 dX7_passes_89 rfl ?_
            refine j_iload_n C0 dX7_passes_90 rfl ?_
            refine j_iconst C0 (v := 5) dX7_passes_91 (by decide) ?_
            refine j_aload_n C0 dX7_passes_92 rfl ?_
            refine r_gf_6 C0 dX7_passes_93 ?_
            refine j_iload_n C0 dX7_passes_96 rfl ?_
            refine r_ld_6 C0 (v := ((G 6) (nI j12).toNatClampNeg)) (vp_nI (by omega) (by decide)) dX7_passes_97 rfl ?_
            refine j_imul C0 dX7_passes_98 ?_
            refine j_callVn C0 (k_X7_pays hl ad (hu (hu F 1 ((F 1) + (1 : Int32))) 19 v12_0) (hu (hu G 10 (upd v12_1 (nI j12).toNatClampNeg (((v12_1 (nI j12).toNatClampNeg) + (0 : Int32))))) 13 v12_2) (nI j12) (((5 : Int32) * ((G 6) (nI j12).toNatClampNeg))) (vp_nI (by omega) (by decide))) mv_X7_pays wm_X7_125 (r_recv C0) rfl rfl ⟨Nat.le_of_ble_eq_true rfl, Nat.le_of_ble_eq_true rfl⟩ (Nat.le_of_ble_eq_true rfl) ⟨Nat.le_refl _, Nat.le_refl _⟩ dX7_passes_99 ?_
            show J p l e _ s m args below meth c A 6 _ (OV D Y A ad (F 0) ((F 1) + (1 : Int32)) (F 5) (F 18) v12_0 (F 20) (G 2) (G 3) (G 4) (G 6) (G 7) (G 8) (G 9) (upd v12_1 (nI j12).toNatClampNeg (((v12_1 (nI j12).toNatClampNeg) + (0 : Int32)))) (G 11) (G 12) (upd v12_2 (nI j12).toNatClampNeg ((v12_2 (nI j12).toNatClampNeg) + ((5 : Int32) * ((G 6) (nI j12).toNatClampNeg)))) (G 14) (G 15) (G 16) (G 17) (G 21) (G 22) (G 23) (G 24) (G 25)) 0 0 102 [(0, .ref (ad 0)), (1, .int (nI j12)), (2, .int ((0 : Int32)))] []
            refine j_aload_n C0 dX7_passes_102 rfl ?_
            refine j_dup C0 dX7_passes_103 rfl ?_
            refine r_gf_19 C0 (v := v12_0) dX7_passes_104 rfl ?_
            refine j_iconst C0 (v := 5) dX7_passes_107 (by decide) ?_
            refine j_aload_n C0 dX7_passes_108 rfl ?_
            refine r_gf_6 C0 dX7_passes_109 ?_
            refine j_iload_n C0 dX7_passes_112 rfl ?_
            refine r_ld_6 C0 (v := ((G 6) (nI j12).toNatClampNeg)) (vp_nI (by omega) (by decide)) dX7_passes_113 rfl ?_
            refine j_imul C0 dX7_passes_114 ?_
            refine j_iadd C0 dX7_passes_115 ?_
            refine r_pf_19 C0 dX7_passes_116 ?_
            refine j_iinc C0 (v := nI (j12 + 1)) (L' := [(0, .ref (ad 0)), (1, .int (nI (j12 + 1))), (2, .int ((0 : Int32)))]) dX7_passes_119 rfl (nI_inc j12) (by decide) rfl ?_
            refine j_goto C0 12 dX7_passes_122 (by decide) ?_
            rw [bX7_passes_12, if_neg q2, if_pos q8, if_pos q11, if_pos q13] at K12
            refine j_locals (L' := [(0, .ref (ad 0)), (1, .int (nI (j12 + 1)))]) (fun q hq => by simp only [List.mem_cons, List.mem_nil_iff, or_false] at hq ⊢; rcases hq with rfl | rfl <;> simp) (lok_of rfl rfl) ?_
            exact K12
        ·
          refine j_iconst C0 (v := 1) dX7_passes_55 (by decide) ?_
          refine j_goto C0 60 dX7_passes_56 (by decide) ?_
          refine j_istore_n C0 (L' := [(0, .ref (ad 0)), (1, .int (nI j12)), (2, .int ((1 : Int32)))]) dX7_passes_60 (by decide) rfl ?_
          refine j_aload_n C0 dX7_passes_61 rfl ?_
          refine r_gf_10 C0 dX7_passes_62 ?_
          refine j_iload_n C0 dX7_passes_65 rfl ?_
          refine j_dup2 C0 dX7_passes_66 rfl rfl ?_
          refine r_ld_10 C0 (v := (v12_1 (nI j12).toNatClampNeg)) (vp_nI (by omega) (by decide)) dX7_passes_67 rfl ?_
          refine j_iload_n C0 dX7_passes_68 rfl ?_
          refine j_if_eq C0 76 dX7_passes_69 (by decide) (fun z => absurd z (by decide)) (fun _ => ?_)
          refine j_iconst C0 (v := 1) dX7_passes_72 (by decide) ?_
          refine j_goto C0 77 dX7_passes_73 (by decide) ?_
          refine j_iadd C0 dX7_passes_77 ?_
          refine r_st_10 C0 (vp_nI (by omega) (by decide)) dX7_passes_78 ?_
          refine j_aload_n C0 dX7_passes_79 rfl ?_
          refine r_gf_10 C0 dX7_passes_80 ?_
          refine j_iload_n C0 dX7_passes_83 rfl ?_
          refine r_ld_10 C0 (v := ((upd v12_1 (nI j12).toNatClampNeg (((v12_1 (nI j12).toNatClampNeg) + (1 : Int32)))) (nI j12).toNatClampNeg)) (vp_nI (by omega) (by decide)) dX7_passes_84 rfl ?_
          refine j_iconst C0 (v := 2) dX7_passes_85 (by decide) ?_
          refine j_icmp_ne C0 119 dX7_passes_86 (by decide) (fun (q15 : ¬ (((upd v12_1 (nI j12).toNatClampNeg (((v12_1 (nI j12).toNatClampNeg) + (1 : Int32)))) (nI j12).toNatClampNeg) = (2 : Int32))) => ?_) (fun (q15 : ((upd v12_1 (nI j12).toNatClampNeg (((v12_1 (nI j12).toNatClampNeg) + (1 : Int32)))) (nI j12).toNatClampNeg) = (2 : Int32)) => ?_)
          ·
            refine j_iinc C0 (v := nI (j12 + 1)) (L' := [(0, .ref (ad 0)), (1, .int (nI (j12 + 1))), (2, .int ((1 : Int32)))]) dX7_passes_119 rfl (nI_inc j12) (by decide) rfl ?_
            refine j_goto C0 12 dX7_passes_122 (by decide) ?_
            rw [bX7_passes_12, if_neg q2, if_pos q8, if_neg q11, if_neg q15] at K12
            refine j_locals (L' := [(0, .ref (ad 0)), (1, .int (nI (j12 + 1)))]) (fun q hq => by simp only [List.mem_cons, List.mem_nil_iff, or_false] at hq ⊢; rcases hq with rfl | rfl <;> simp) (lok_of rfl rfl) ?_
            exact K12
          ·
            refine j_aload_n C0 dX7_passes_89 rfl ?_
            refine j_iload_n C0 dX7_passes_90 rfl ?_
            refine j_iconst C0 (v := 5) dX7_passes_91 (by decide) ?_
            refine j_aload_n C0 dX7_passes_92 rfl ?_
            refine r_gf_6 C0 dX7_passes_93 ?_
            refine j_iload_n C0 dX7_passes_96 rfl ?_
            refine r_ld_6 C0 (v := ((G 6) (nI j12).toNatClampNeg)) (vp_nI (by omega) (by decide)) dX7_passes_97 rfl ?_
            refine j_imul C0 dX7_passes_98 ?_
            refine j_callVn C0 (k_X7_pays hl ad (hu (hu F 1 ((F 1) + (1 : Int32))) 19 v12_0) (hu (hu G 10 (upd v12_1 (nI j12).toNatClampNeg (((v12_1 (nI j12).toNatClampNeg) + (1 : Int32))))) 13 v12_2) (nI j12) (((5 : Int32) * ((G 6) (nI j12).toNatClampNeg))) (vp_nI (by omega) (by decide))) mv_X7_pays wm_X7_125 (r_recv C0) rfl rfl ⟨Nat.le_of_ble_eq_true rfl, Nat.le_of_ble_eq_true rfl⟩ (Nat.le_of_ble_eq_true rfl) ⟨Nat.le_refl _, Nat.le_refl _⟩ dX7_passes_99 ?_
            show J p l e _ s m args below meth c A 6 _ (OV D Y A ad (F 0) ((F 1) + (1 : Int32)) (F 5) (F 18) v12_0 (F 20) (G 2) (G 3) (G 4) (G 6) (G 7) (G 8) (G 9) (upd v12_1 (nI j12).toNatClampNeg (((v12_1 (nI j12).toNatClampNeg) + (1 : Int32)))) (G 11) (G 12) (upd v12_2 (nI j12).toNatClampNeg ((v12_2 (nI j12).toNatClampNeg) + ((5 : Int32) * ((G 6) (nI j12).toNatClampNeg)))) (G 14) (G 15) (G 16) (G 17) (G 21) (G 22) (G 23) (G 24) (G 25)) 0 0 102 [(0, .ref (ad 0)), (1, .int (nI j12)), (2, .int ((1 : Int32)))] []
            refine j_aload_n C0 dX7_passes_102 rfl ?_
            refine j_dup C0 dX7_passes_103 rfl ?_
            refine r_gf_19 C0 (v := v12_0) dX7_passes_104 rfl ?_
            refine j_iconst C0 (v := 5) dX7_passes_107 (by decide) ?_
            refine j_aload_n C0 dX7_passes_108 rfl ?_
            refine r_gf_6 C0 dX7_passes_109 ?_
            refine j_iload_n C0 dX7_passes_112 rfl ?_
            refine r_ld_6 C0 (v := ((G 6) (nI j12).toNatClampNeg)) (vp_nI (by omega) (by decide)) dX7_passes_113 rfl ?_
            refine j_imul C0 dX7_passes_114 ?_
            refine j_iadd C0 dX7_passes_115 ?_
            refine r_pf_19 C0 dX7_passes_116 ?_
            refine j_iinc C0 (v := nI (j12 + 1)) (L' := [(0, .ref (ad 0)), (1, .int (nI (j12 + 1))), (2, .int ((1 : Int32)))]) dX7_passes_119 rfl (nI_inc j12) (by decide) rfl ?_
            refine j_goto C0 12 dX7_passes_122 (by decide) ?_
            rw [bX7_passes_12, if_neg q2, if_pos q8, if_neg q11, if_pos q15] at K12
            refine j_locals (L' := [(0, .ref (ad 0)), (1, .int (nI (j12 + 1)))]) (fun q hq => by simp only [List.mem_cons, List.mem_nil_iff, or_false] at hq ⊢; rcases hq with rfl | rfl <;> simp) (lok_of rfl rfl) ?_
            exact K12
  ·
    show J p l e _ s m args below meth c A 6 _ (OV D Y A ad (F 0) ((F 1) + (1 : Int32)) (F 5) (F 18) (nf (bX7_passes_12 F G) ((F 19), (G 10), (G 13)) ((F 5).toNatClampNeg)).1 (F 20) (G 2) (G 3) (G 4) (G 6) (G 7) (G 8) (G 9) (nf (bX7_passes_12 F G) ((F 19), (G 10), (G 13)) ((F 5).toNatClampNeg)).2.1 (G 11) (G 12) (nf (bX7_passes_12 F G) ((F 19), (G 10), (G 13)) ((F 5).toNatClampNeg)).2.2 (G 14) (G 15) (G 16) (G 17) (G 21) (G 22) (G 23) (G 24) (G 25)) 0 0 12 [(0, .ref (ad 0)), (1, .int (nI (((F 5).toNatClampNeg))))] []
    refine j_iload_n C0 dX7_passes_12 rfl ?_
    refine j_aload_n C0 dX7_passes_13 rfl ?_
    refine r_gf_5 C0 (v := (F 5)) dX7_passes_14 rfl ?_
    refine j_icmp_ge C0 125 dX7_passes_17 (by decide) (fun _ => ?_) (fun z => absurd (cl_le rfl) z)
    refine j_iconst C0 (v := 0) dX7_passes_125 (by decide) ?_
    refine j_istore_n C0 (L' := [(0, .ref (ad 0)), (1, .int ((0 : Int32)))]) dX7_passes_126 (by decide) rfl ?_
    refine j_iconst C0 (v := 0) dX7_passes_127 (by decide) ?_
    refine j_istore_n C0 (L' := [(0, .ref (ad 0)), (1, .int ((0 : Int32))), (2, .int ((0 : Int32)))]) dX7_passes_128 (by decide) rfl ?_
    refine hb_lp (P := fun (j : Nat) (v : Int32 × (Nat → Int32) × (Nat → Nat → Int32)) => J p l e _ s m args below meth c A 6 _ (OV D Y A ad (v.2.1 0) (v.2.1 1) (v.2.1 5) (v.2.1 18) (v.2.1 19) (v.2.1 20) (v.2.2 2) (v.2.2 3) (v.2.2 4) (v.2.2 6) (v.2.2 7) (v.2.2 8) (v.2.2 9) (v.2.2 10) (v.2.2 11) (v.2.2 12) (v.2.2 13) (v.2.2 14) (v.2.2 15) (v.2.2 16) (v.2.2 17) (v.2.2 21) (v.2.2 22) (v.2.2 23) (v.2.2 24) (v.2.2 25)) 0 0 129 [(0, .ref (ad 0)), (1, .int (v.1)), (2, .int (nI j))] []) (bX7_passes_129 F G) ((0 : Int32), (hu (hu F 1 ((F 1) + (1 : Int32))) 19 (nf (bX7_passes_12 F G) ((F 19), (G 10), (G 13)) ((F 5).toNatClampNeg)).1), (hu (hu G 10 (nf (bX7_passes_12 F G) ((F 19), (G 10), (G 13)) ((F 5).toNatClampNeg)).2.1) 13 (nf (bX7_passes_12 F G) ((F 19), (G 10), (G 13)) ((F 5).toNatClampNeg)).2.2)) (((F 5)).toNatClampNeg) ?_ ?_
    ·
      intro j129 hj129 K129
      have hv129 := passes_inv F G ((0 : Int32), (hu (hu F 1 ((F 1) + (1 : Int32))) 19 (nf (bX7_passes_12 F G) ((F 19), (G 10), (G 13)) ((F 5).toNatClampNeg)).1), (hu (hu G 10 (nf (bX7_passes_12 F G) ((F 19), (G 10), (G 13)) ((F 5).toNatClampNeg)).2.1) 13 (nf (bX7_passes_12 F G) ((F 19), (G 10), (G 13)) ((F 5).toNatClampNeg)).2.2)) ⟨⟨hn1, hs, hm, hb, hw, hr⟩, rfl, rfl⟩ j129
      generalize nf (bX7_passes_129 F G) ((0 : Int32), (hu (hu F 1 ((F 1) + (1 : Int32))) 19 (nf (bX7_passes_12 F G) ((F 19), (G 10), (G 13)) ((F 5).toNatClampNeg)).1), (hu (hu G 10 (nf (bX7_passes_12 F G) ((F 19), (G 10), (G 13)) ((F 5).toNatClampNeg)).2.1) 13 (nf (bX7_passes_12 F G) ((F 19), (G 10), (G 13)) ((F 5).toNatClampNeg)).2.2)) j129 = v129 at K129 hv129 ⊢
      obtain ⟨v129_0, v129_1, v129_2⟩ := v129
      try dsimp only at hv129
      show J p l e _ s m args below meth c A 6 _ (OV D Y A ad (v129_1 0) (v129_1 1) (v129_1 5) (v129_1 18) (v129_1 19) (v129_1 20) (v129_2 2) (v129_2 3) (v129_2 4) (v129_2 6) (v129_2 7) (v129_2 8) (v129_2 9) (v129_2 10) (v129_2 11) (v129_2 12) (v129_2 13) (v129_2 14) (v129_2 15) (v129_2 16) (v129_2 17) (v129_2 21) (v129_2 22) (v129_2 23) (v129_2 24) (v129_2 25)) 0 0 129 [(0, .ref (ad 0)), (1, .int (v129_0)), (2, .int (nI j129))] []
      replace K129 : J p l e _ s m args below meth c A 6 _ (OV D Y A ad ((bX7_passes_129 F G j129 (v129_0, v129_1, v129_2)).2.1 0) ((bX7_passes_129 F G j129 (v129_0, v129_1, v129_2)).2.1 1) ((bX7_passes_129 F G j129 (v129_0, v129_1, v129_2)).2.1 5) ((bX7_passes_129 F G j129 (v129_0, v129_1, v129_2)).2.1 18) ((bX7_passes_129 F G j129 (v129_0, v129_1, v129_2)).2.1 19) ((bX7_passes_129 F G j129 (v129_0, v129_1, v129_2)).2.1 20) ((bX7_passes_129 F G j129 (v129_0, v129_1, v129_2)).2.2 2) ((bX7_passes_129 F G j129 (v129_0, v129_1, v129_2)).2.2 3) ((bX7_passes_129 F G j129 (v129_0, v129_1, v129_2)).2.2 4) ((bX7_passes_129 F G j129 (v129_0, v129_1, v129_2)).2.2 6) ((bX7_passes_129 F G j129 (v129_0, v129_1, v129_2)).2.2 7) ((bX7_passes_129 F G j129 (v129_0, v129_1, v129_2)).2.2 8) ((bX7_passes_129 F G j129 (v129_0, v129_1, v129_2)).2.2 9) ((bX7_passes_129 F G j129 (v129_0, v129_1, v129_2)).2.2 10) ((bX7_passes_129 F G j129 (v129_0, v129_1, v129_2)).2.2 11) ((bX7_passes_129 F G j129 (v129_0, v129_1, v129_2)).2.2 12) ((bX7_passes_129 F G j129 (v129_0, v129_1, v129_2)).2.2 13) ((bX7_passes_129 F G j129 (v129_0, v129_1, v129_2)).2.2 14) ((bX7_passes_129 F G j129 (v129_0, v129_1, v129_2)).2.2 15) ((bX7_passes_129 F G j129 (v129_0, v129_1, v129_2)).2.2 16) ((bX7_passes_129 F G j129 (v129_0, v129_1, v129_2)).2.2 17) ((bX7_passes_129 F G j129 (v129_0, v129_1, v129_2)).2.2 21) ((bX7_passes_129 F G j129 (v129_0, v129_1, v129_2)).2.2 22) ((bX7_passes_129 F G j129 (v129_0, v129_1, v129_2)).2.2 23) ((bX7_passes_129 F G j129 (v129_0, v129_1, v129_2)).2.2 24) ((bX7_passes_129 F G j129 (v129_0, v129_1, v129_2)).2.2 25)) 0 0 129 [(0, .ref (ad 0)), (1, .int ((bX7_passes_129 F G j129 (v129_0, v129_1, v129_2)).1)), (2, .int (nI (j129 + 1)))] [] := K129
      have hA129 : RI v129_1 v129_2 := hv129.1; have hC129 : v129_1 5 = F 5 := hv129.2.2; have hc129 : (v129_1 5).toNatClampNeg ≤ 30 := hA129.2.1.cl (by decide)
      refine j_iload_n C0 dX7_passes_129 rfl ?_
      refine j_aload_n C0 dX7_passes_130 rfl ?_
      refine r_gf_5 C0 (v := (v129_1 5)) dX7_passes_131 rfl ?_
      refine j_icmp_ge C0 247 dX7_passes_134 (by decide) (fun z => absurd z (cl_lt (by rw [hC129]) hj129)) (fun _ => ?_)
      refine j_iconst C0 (v := -1) dX7_passes_137 (by decide) ?_
      refine j_istore_n C0 (L' := [(0, .ref (ad 0)), (1, .int (v129_0)), (2, .int (nI j129)), (3, .int ((-1 : Int32)))]) dX7_passes_138 (by decide) rfl ?_
      refine j_iconst C0 (v := 0) dX7_passes_139 (by decide) ?_
      refine j_istore C0 (L' := [(0, .ref (ad 0)), (1, .int (v129_0)), (2, .int (nI j129)), (3, .int ((-1 : Int32))), (4, .int ((0 : Int32)))]) dX7_passes_140 (by decide) rfl ?_
      refine hb_lp (P := fun (j : Nat) (v : Int32) => J p l e _ s m args below meth c A 6 _ (OV D Y A ad (v129_1 0) (v129_1 1) (v129_1 5) (v129_1 18) (v129_1 19) (v129_1 20) (v129_2 2) (v129_2 3) (v129_2 4) (v129_2 6) (v129_2 7) (v129_2 8) (v129_2 9) (v129_2 10) (v129_2 11) (v129_2 12) (v129_2 13) (v129_2 14) (v129_2 15) (v129_2 16) (v129_2 17) (v129_2 21) (v129_2 22) (v129_2 23) (v129_2 24) (v129_2 25)) 0 0 142 [(0, .ref (ad 0)), (1, .int (v129_0)), (2, .int (nI j129)), (3, .int (v)), (4, .int (nI j))] []) (bX7_passes_142 F G j129 v129_0 v129_1 v129_2) ((-1 : Int32)) (((v129_1 5)).toNatClampNeg) ?_ ?_
      ·
        intro j142 hj142 K142
        have hv142 := (fun j (hj : j ≤ 30) => (passes_in F G j129 v129_0 v129_1 v129_2) j hj) j142
        generalize nf (bX7_passes_142 F G j129 v129_0 v129_1 v129_2) ((-1 : Int32)) j142 = v142 at K142 hv142 ⊢
        try dsimp only at hv142
        show J p l e _ s m args below meth c A 6 _ (OV D Y A ad (v129_1 0) (v129_1 1) (v129_1 5) (v129_1 18) (v129_1 19) (v129_1 20) (v129_2 2) (v129_2 3) (v129_2 4) (v129_2 6) (v129_2 7) (v129_2 8) (v129_2 9) (v129_2 10) (v129_2 11) (v129_2 12) (v129_2 13) (v129_2 14) (v129_2 15) (v129_2 16) (v129_2 17) (v129_2 21) (v129_2 22) (v129_2 23) (v129_2 24) (v129_2 25)) 0 0 142 [(0, .ref (ad 0)), (1, .int (v129_0)), (2, .int (nI j129)), (3, .int (v142)), (4, .int (nI j142))] []
        replace K142 : J p l e _ s m args below meth c A 6 _ (OV D Y A ad (v129_1 0) (v129_1 1) (v129_1 5) (v129_1 18) (v129_1 19) (v129_1 20) (v129_2 2) (v129_2 3) (v129_2 4) (v129_2 6) (v129_2 7) (v129_2 8) (v129_2 9) (v129_2 10) (v129_2 11) (v129_2 12) (v129_2 13) (v129_2 14) (v129_2 15) (v129_2 16) (v129_2 17) (v129_2 21) (v129_2 22) (v129_2 23) (v129_2 24) (v129_2 25)) 0 0 142 [(0, .ref (ad 0)), (1, .int (v129_0)), (2, .int (nI j129)), (3, .int ((bX7_passes_142 F G j129 v129_0 v129_1 v129_2 j142 v142))), (4, .int (nI (j142 + 1)))] [] := K142
        refine j_iload C0 dX7_passes_142 rfl ?_
        refine j_aload_n C0 dX7_passes_144 rfl ?_
        refine r_gf_5 C0 (v := (v129_1 5)) dX7_passes_145 rfl ?_
        refine j_icmp_ge C0 225 dX7_passes_148 (by decide) (fun z => absurd z (cl_lt rfl hj142)) (fun _ => ?_)
        refine j_aload_n C0 dX7_passes_151 rfl ?_
        refine r_gf_11 C0 dX7_passes_152 ?_
        refine j_iload C0 dX7_passes_155 rfl ?_
        refine r_ld_11 C0 (v := ((v129_2 11) (nI j142).toNatClampNeg)) (vp_nI (by omega) (by decide)) dX7_passes_157 rfl ?_
        refine j_iconst C0 (v := -1) dX7_passes_158 (by decide) ?_
        refine j_icmp_eq C0 189 dX7_passes_159 (by decide) (fun (q19 : ((v129_2 11) (nI j142).toNatClampNeg) = (-1 : Int32)) => ?_) (fun (q19 : ¬ (((v129_2 11) (nI j142).toNatClampNeg) = (-1 : Int32))) => ?_)
        ·
          refine j_iconst C0 (v := 0) dX7_passes_189 (by decide) ?_
          refine j_istore C0 (L' := [(0, .ref (ad 0)), (1, .int (v129_0)), (2, .int (nI j129)), (3, .int (v142)), (4, .int (nI j142)), (5, .int ((0 : Int32)))]) dX7_passes_190 (by decide) rfl ?_
          refine j_iload C0 dX7_passes_192 rfl ?_
          refine j_if_eq C0 217 dX7_passes_194 (by decide) (fun _ => ?_) (fun z => absurd (by decide) z)
          refine j_iload_n C0 dX7_passes_217 rfl ?_
          refine j_istore_n C0 (L' := [(0, .ref (ad 0)), (1, .int (v129_0)), (2, .int (nI j129)), (3, .int (v142)), (4, .int (nI j142)), (5, .int ((0 : Int32)))]) dX7_passes_218 (by decide) rfl ?_
          refine j_iinc C0 (v := nI (j142 + 1)) (L' := [(0, .ref (ad 0)), (1, .int (v129_0)), (2, .int (nI j129)), (3, .int (v142)), (4, .int (nI (j142 + 1))), (5, .int ((0 : Int32)))]) dX7_passes_219 rfl (nI_inc j142) (by decide) rfl ?_
          refine j_goto C0 142 dX7_passes_222 (by decide) ?_
          rw [bX7_passes_142, if_pos q19] at K142
          refine j_locals (L' := [(0, .ref (ad 0)), (1, .int (v129_0)), (2, .int (nI j129)), (3, .int (v142)), (4, .int (nI (j142 + 1)))]) (fun q hq => by simp only [List.mem_cons, List.mem_nil_iff, or_false] at hq ⊢; rcases hq with rfl | rfl | rfl | rfl | rfl <;> simp) (lok_of rfl rfl) ?_
          exact K142
        ·
          refine j_aload_n C0 dX7_passes_162 rfl ?_
          refine r_gf_11 C0 dX7_passes_163 ?_
          refine j_iload C0 dX7_passes_166 rfl ?_
          refine r_ld_11 C0 (v := ((v129_2 11) (nI j142).toNatClampNeg)) (vp_nI (by omega) (by decide)) dX7_passes_168 rfl ?_
          refine j_aload_n C0 dX7_passes_169 rfl ?_
          refine r_gf_1 C0 (v := (v129_1 1)) dX7_passes_170 rfl ?_
          refine j_icmp_gt C0 189 dX7_passes_173 (by decide) (fun (q21 : (v129_1 1) < ((v129_2 11) (nI j142).toNatClampNeg)) => ?_) (fun (q21 : ¬ ((v129_1 1) < ((v129_2 11) (nI j142).toNatClampNeg))) => ?_)
          ·
            refine j_iconst C0 (v := 0) dX7_passes_189 (by decide) ?_
            refine j_istore C0 (L' := [(0, .ref (ad 0)), (1, .int (v129_0)), (2, .int (nI j129)), (3, .int (v142)), (4, .int (nI j142)), (5, .int ((0 : Int32)))]) dX7_passes_190 (by decide) rfl ?_
            refine j_iload C0 dX7_passes_192 rfl ?_
            refine j_if_eq C0 217 dX7_passes_194 (by decide) (fun _ => ?_) (fun z => absurd (by decide) z)
            refine j_iload_n C0 dX7_passes_217 rfl ?_
            refine j_istore_n C0 (L' := [(0, .ref (ad 0)), (1, .int (v129_0)), (2, .int (nI j129)), (3, .int (v142)), (4, .int (nI j142)), (5, .int ((0 : Int32)))]) dX7_passes_218 (by decide) rfl ?_
            refine j_iinc C0 (v := nI (j142 + 1)) (L' := [(0, .ref (ad 0)), (1, .int (v129_0)), (2, .int (nI j129)), (3, .int (v142)), (4, .int (nI (j142 + 1))), (5, .int ((0 : Int32)))]) dX7_passes_219 rfl (nI_inc j142) (by decide) rfl ?_
            refine j_goto C0 142 dX7_passes_222 (by decide) ?_
            rw [bX7_passes_142, if_neg q19, if_pos q21] at K142
            refine j_locals (L' := [(0, .ref (ad 0)), (1, .int (v129_0)), (2, .int (nI j129)), (3, .int (v142)), (4, .int (nI (j142 + 1)))]) (fun q hq => by simp only [List.mem_cons, List.mem_nil_iff, or_false] at hq ⊢; rcases hq with rfl | rfl | rfl | rfl | rfl <;> simp) (lok_of rfl rfl) ?_
            exact K142
          ·
            refine j_iload_n C0 dX7_passes_176 rfl ?_
            refine j_iload C0 dX7_passes_177 rfl ?_
            refine j_ishr C0 dX7_passes_179 ?_
            refine j_iconst C0 (v := 1) dX7_passes_180 (by decide) ?_
            refine j_iand C0 dX7_passes_181 ?_
            refine j_if_ne C0 189 dX7_passes_182 (by decide) (fun (q23 : ¬ (((v129_0 >>> (nI j142 &&& 31)) &&& (1 : Int32)) = 0)) => ?_) (fun (q23 : ((v129_0 >>> (nI j142 &&& 31)) &&& (1 : Int32)) = 0) => ?_)
            ·
              refine j_iconst C0 (v := 0) dX7_passes_189 (by decide) ?_
              refine j_istore C0 (L' := [(0, .ref (ad 0)), (1, .int (v129_0)), (2, .int (nI j129)), (3, .int (v142)), (4, .int (nI j142)), (5, .int ((0 : Int32)))]) dX7_passes_190 (by decide) rfl ?_
              refine j_iload C0 dX7_passes_192 rfl ?_
              refine j_if_eq C0 217 dX7_passes_194 (by decide) (fun _ => ?_) (fun z => absurd (by decide) z)
              refine j_iload_n C0 dX7_passes_217 rfl ?_
              refine j_istore_n C0 (L' := [(0, .ref (ad 0)), (1, .int (v129_0)), (2, .int (nI j129)), (3, .int (v142)), (4, .int (nI j142)), (5, .int ((0 : Int32)))]) dX7_passes_218 (by decide) rfl ?_
              refine j_iinc C0 (v := nI (j142 + 1)) (L' := [(0, .ref (ad 0)), (1, .int (v129_0)), (2, .int (nI j129)), (3, .int (v142)), (4, .int (nI (j142 + 1))), (5, .int ((0 : Int32)))]) dX7_passes_219 rfl (nI_inc j142) (by decide) rfl ?_
              refine j_goto C0 142 dX7_passes_222 (by decide) ?_
              rw [bX7_passes_142, if_neg q19, if_neg q21, if_neg q23] at K142
              refine j_locals (L' := [(0, .ref (ad 0)), (1, .int (v129_0)), (2, .int (nI j129)), (3, .int (v142)), (4, .int (nI (j142 + 1)))]) (fun q hq => by simp only [List.mem_cons, List.mem_nil_iff, or_false] at hq ⊢; rcases hq with rfl | rfl | rfl | rfl | rfl <;> simp) (lok_of rfl rfl) ?_
              exact K142
            ·
              refine j_iconst C0 (v := 1) dX7_passes_185 (by decide) ?_
              refine j_goto C0 190 dX7_passes_186 (by decide) ?_
              refine j_istore C0 (L' := [(0, .ref (ad 0)), (1, .int (v129_0)), (2, .int (nI j129)), (3, .int (v142)), (4, .int (nI j142)), (5, .int ((1 : Int32)))]) dX7_passes_190 (by decide) rfl ?_
              refine j_iload C0 dX7_passes_192 rfl ?_
              refine j_if_eq C0 217 dX7_passes_194 (by decide) (fun z => absurd z (by decide)) (fun _ => ?_)
              refine j_iload_n C0 dX7_passes_197 rfl ?_
              refine j_iconst C0 (v := -1) dX7_passes_198 (by decide) ?_
              refine j_icmp_eq C0 212 dX7_passes_199 (by decide) (fun (q26 : v142 = (-1 : Int32)) => ?_) (fun (q26 : ¬ (v142 = (-1 : Int32))) => ?_)
              ·
                refine j_iload C0 dX7_passes_212 rfl ?_
                refine j_goto C0 218 dX7_passes_214 (by decide) ?_
                refine j_istore_n C0 (L' := [(0, .ref (ad 0)), (1, .int (v129_0)), (2, .int (nI j129)), (3, .int (nI j142)), (4, .int (nI j142)), (5, .int ((1 : Int32)))]) dX7_passes_218 (by decide) rfl ?_
                refine j_iinc C0 (v := nI (j142 + 1)) (L' := [(0, .ref (ad 0)), (1, .int (v129_0)), (2, .int (nI j129)), (3, .int (nI j142)), (4, .int (nI (j142 + 1))), (5, .int ((1 : Int32)))]) dX7_passes_219 rfl (nI_inc j142) (by decide) rfl ?_
                refine j_goto C0 142 dX7_passes_222 (by decide) ?_
                rw [bX7_passes_142, if_neg q19, if_neg q21, if_pos q23, if_pos q26] at K142
                refine j_locals (L' := [(0, .ref (ad 0)), (1, .int (v129_0)), (2, .int (nI j129)), (3, .int (nI j142)), (4, .int (nI (j142 + 1)))]) (fun q hq => by simp only [List.mem_cons, List.mem_nil_iff, or_false] at hq ⊢; rcases hq with rfl | rfl | rfl | rfl | rfl <;> simp) (lok_of rfl rfl) ?_
                exact K142
              ·
                refine j_aload_n C0 dX7_passes_202 rfl ?_
                refine j_iload C0 dX7_passes_203 rfl ?_
                refine j_iload_n C0 dX7_passes_205 rfl ?_
                refine j_callVv C0 (k_X7_isAhead hl ad v129_1 v129_2 (nI j142) (v142) (vp_nI (by omega) (by decide)) ((hv142 (by omega)).resolve_left q26)) mv_X7_isAhead wm_X7_110 (r_recv C0) rfl rfl ⟨Nat.le_of_ble_eq_true rfl, Nat.le_of_ble_eq_true rfl⟩ (Nat.le_of_ble_eq_true rfl) ⟨Nat.le_refl _, Nat.le_refl _⟩ dX7_passes_206 ?_
                refine j_if_eq C0 217 dX7_passes_209 (by decide) (fun (q27 : (vX7_isAhead v129_1 v129_2 (nI j142) (v142)) = 0) => ?_) (fun (q27 : ¬ ((vX7_isAhead v129_1 v129_2 (nI j142) (v142)) = 0)) => ?_)
                ·
                  refine j_iload_n C0 dX7_passes_217 rfl ?_
                  refine j_istore_n C0 (L' := [(0, .ref (ad 0)), (1, .int (v129_0)), (2, .int (nI j129)), (3, .int (v142)), (4, .int (nI j142)), (5, .int ((1 : Int32)))]) dX7_passes_218 (by decide) rfl ?_
                  refine j_iinc C0 (v := nI (j142 + 1)) (L' := [(0, .ref (ad 0)), (1, .int (v129_0)), (2, .int (nI j129)), (3, .int (v142)), (4, .int (nI (j142 + 1))), (5, .int ((1 : Int32)))]) dX7_passes_219 rfl (nI_inc j142) (by decide) rfl ?_
                  refine j_goto C0 142 dX7_passes_222 (by decide) ?_
                  rw [bX7_passes_142, if_neg q19, if_neg q21, if_pos q23, if_neg q26, if_pos q27] at K142
                  refine j_locals (L' := [(0, .ref (ad 0)), (1, .int (v129_0)), (2, .int (nI j129)), (3, .int (v142)), (4, .int (nI (j142 + 1)))]) (fun q hq => by simp only [List.mem_cons, List.mem_nil_iff, or_false] at hq ⊢; rcases hq with rfl | rfl | rfl | rfl | rfl <;> simp) (lok_of rfl rfl) ?_
                  exact K142
                ·
                  refine j_iload C0 dX7_passes_212 rfl ?_
                  refine j_goto C0 218 dX7_passes_214 (by decide) ?_
                  refine j_istore_n C0 (L' := [(0, .ref (ad 0)), (1, .int (v129_0)), (2, .int (nI j129)), (3, .int (nI j142)), (4, .int (nI j142)), (5, .int ((1 : Int32)))]) dX7_passes_218 (by decide) rfl ?_
                  refine j_iinc C0 (v := nI (j142 + 1)) (L' := [(0, .ref (ad 0)), (1, .int (v129_0)), (2, .int (nI j129)), (3, .int (nI j142)), (4, .int (nI (j142 + 1))), (5, .int ((1 : Int32)))]) dX7_passes_219 rfl (nI_inc j142) (by decide) rfl ?_
                  refine j_goto C0 142 dX7_passes_222 (by decide) ?_
                  rw [bX7_passes_142, if_neg q19, if_neg q21, if_pos q23, if_neg q26, if_neg q27] at K142
                  refine j_locals (L' := [(0, .ref (ad 0)), (1, .int (v129_0)), (2, .int (nI j129)), (3, .int (nI j142)), (4, .int (nI (j142 + 1)))]) (fun q hq => by simp only [List.mem_cons, List.mem_nil_iff, or_false] at hq ⊢; rcases hq with rfl | rfl | rfl | rfl | rfl <;> simp) (lok_of rfl rfl) ?_
                  exact K142
      ·
        show J p l e _ s m args below meth c A 6 _ (OV D Y A ad (v129_1 0) (v129_1 1) (v129_1 5) (v129_1 18) (v129_1 19) (v129_1 20) (v129_2 2) (v129_2 3) (v129_2 4) (v129_2 6) (v129_2 7) (v129_2 8) (v129_2 9) (v129_2 10) (v129_2 11) (v129_2 12) (v129_2 13) (v129_2 14) (v129_2 15) (v129_2 16) (v129_2 17) (v129_2 21) (v129_2 22) (v129_2 23) (v129_2 24) (v129_2 25)) 0 0 142 [(0, .ref (ad 0)), (1, .int (v129_0)), (2, .int (nI j129)), (3, .int ((nf (bX7_passes_142 F G j129 v129_0 v129_1 v129_2) ((-1 : Int32)) (((v129_1 5)).toNatClampNeg)))), (4, .int (nI ((((v129_1 5)).toNatClampNeg))))] []
        have hin := (passes_in F G j129 v129_0 v129_1 v129_2) (((v129_1 5)).toNatClampNeg) hc129
        refine j_iload C0 dX7_passes_142 rfl ?_
        refine j_aload_n C0 dX7_passes_144 rfl ?_
        refine r_gf_5 C0 (v := (v129_1 5)) dX7_passes_145 rfl ?_
        refine j_icmp_ge C0 225 dX7_passes_148 (by decide) (fun _ => ?_) (fun z => absurd (cl_le rfl) z)
        refine j_iload_n C0 dX7_passes_225 rfl ?_
        refine j_iconst C0 (v := -1) dX7_passes_226 (by decide) ?_
        refine j_icmp_eq C0 241 dX7_passes_227 (by decide) (fun (q29 : (nf (bX7_passes_142 F G j129 v129_0 v129_1 v129_2) ((-1 : Int32)) (((v129_1 5)).toNatClampNeg)) = (-1 : Int32)) => ?_) (fun (q29 : ¬ ((nf (bX7_passes_142 F G j129 v129_0 v129_1 v129_2) ((-1 : Int32)) (((v129_1 5)).toNatClampNeg)) = (-1 : Int32))) => ?_)
        ·
          refine j_iinc C0 (v := nI (j129 + 1)) (L' := [(0, .ref (ad 0)), (1, .int (v129_0)), (2, .int (nI (j129 + 1))), (3, .int ((nf (bX7_passes_142 F G j129 v129_0 v129_1 v129_2) ((-1 : Int32)) (((v129_1 5)).toNatClampNeg)))), (4, .int (nI ((((v129_1 5)).toNatClampNeg))))]) dX7_passes_241 rfl (nI_inc j129) (by decide) rfl ?_
          refine j_goto C0 129 dX7_passes_244 (by decide) ?_
          rw [bX7_passes_129, if_pos q29] at K129
          refine j_locals (L' := [(0, .ref (ad 0)), (1, .int (v129_0)), (2, .int (nI (j129 + 1)))]) (fun q hq => by simp only [List.mem_cons, List.mem_nil_iff, or_false] at hq ⊢; rcases hq with rfl | rfl | rfl <;> simp) (lok_of rfl rfl) ?_
          exact K129
        ·
          refine j_iload_n C0 dX7_passes_230 rfl ?_
          refine j_iconst C0 (v := 1) dX7_passes_231 (by decide) ?_
          refine j_iload_n C0 dX7_passes_232 rfl ?_
          refine j_ishl C0 dX7_passes_233 ?_
          refine j_ior C0 dX7_passes_234 ?_
          refine j_istore_n C0 (L' := [(0, .ref (ad 0)), (1, .int ((v129_0 ||| ((1 : Int32) <<< ((nf (bX7_passes_142 F G j129 v129_0 v129_1 v129_2) ((-1 : Int32)) (((v129_1 5)).toNatClampNeg)) &&& 31))))), (2, .int (nI j129)), (3, .int ((nf (bX7_passes_142 F G j129 v129_0 v129_1 v129_2) ((-1 : Int32)) (((v129_1 5)).toNatClampNeg)))), (4, .int (nI ((((v129_1 5)).toNatClampNeg))))]) dX7_passes_235 (by decide) rfl ?_
          refine j_aload_n C0 dX7_passes_236 rfl ?_
          refine j_iload_n C0 dX7_passes_237 rfl ?_
          refine j_callVn C0 (k_X7_looksAt hl ad v129_1 v129_2 ((nf (bX7_passes_142 F G j129 v129_0 v129_1 v129_2) ((-1 : Int32)) (((v129_1 5)).toNatClampNeg))) hA129 (hin.resolve_left q29)) mv_X7_looksAt wm_X7_155 (r_recv C0) rfl rfl ⟨Nat.le_of_ble_eq_true rfl, Nat.le_of_ble_eq_true rfl⟩ (Nat.le_of_ble_eq_true rfl) ⟨Nat.le_refl _, Nat.le_refl _⟩ dX7_passes_238 ?_
          show J p l e _ s m args below meth c A 6 _ (OV D Y A ad ((sX7_looksAt v129_1 v129_2 ((nf (bX7_passes_142 F G j129 v129_0 v129_1 v129_2) ((-1 : Int32)) (((v129_1 5)).toNatClampNeg)))).1 0) ((sX7_looksAt v129_1 v129_2 ((nf (bX7_passes_142 F G j129 v129_0 v129_1 v129_2) ((-1 : Int32)) (((v129_1 5)).toNatClampNeg)))).1 1) ((sX7_looksAt v129_1 v129_2 ((nf (bX7_passes_142 F G j129 v129_0 v129_1 v129_2) ((-1 : Int32)) (((v129_1 5)).toNatClampNeg)))).1 5) ((sX7_looksAt v129_1 v129_2 ((nf (bX7_passes_142 F G j129 v129_0 v129_1 v129_2) ((-1 : Int32)) (((v129_1 5)).toNatClampNeg)))).1 18) ((sX7_looksAt v129_1 v129_2 ((nf (bX7_passes_142 F G j129 v129_0 v129_1 v129_2) ((-1 : Int32)) (((v129_1 5)).toNatClampNeg)))).1 19) ((sX7_looksAt v129_1 v129_2 ((nf (bX7_passes_142 F G j129 v129_0 v129_1 v129_2) ((-1 : Int32)) (((v129_1 5)).toNatClampNeg)))).1 20) ((sX7_looksAt v129_1 v129_2 ((nf (bX7_passes_142 F G j129 v129_0 v129_1 v129_2) ((-1 : Int32)) (((v129_1 5)).toNatClampNeg)))).2 2) ((sX7_looksAt v129_1 v129_2 ((nf (bX7_passes_142 F G j129 v129_0 v129_1 v129_2) ((-1 : Int32)) (((v129_1 5)).toNatClampNeg)))).2 3) ((sX7_looksAt v129_1 v129_2 ((nf (bX7_passes_142 F G j129 v129_0 v129_1 v129_2) ((-1 : Int32)) (((v129_1 5)).toNatClampNeg)))).2 4) ((sX7_looksAt v129_1 v129_2 ((nf (bX7_passes_142 F G j129 v129_0 v129_1 v129_2) ((-1 : Int32)) (((v129_1 5)).toNatClampNeg)))).2 6) ((sX7_looksAt v129_1 v129_2 ((nf (bX7_passes_142 F G j129 v129_0 v129_1 v129_2) ((-1 : Int32)) (((v129_1 5)).toNatClampNeg)))).2 7) ((sX7_looksAt v129_1 v129_2 ((nf (bX7_passes_142 F G j129 v129_0 v129_1 v129_2) ((-1 : Int32)) (((v129_1 5)).toNatClampNeg)))).2 8) ((sX7_looksAt v129_1 v129_2 ((nf (bX7_passes_142 F G j129 v129_0 v129_1 v129_2) ((-1 : Int32)) (((v129_1 5)).toNatClampNeg)))).2 9) ((sX7_looksAt v129_1 v129_2 ((nf (bX7_passes_142 F G j129 v129_0 v129_1 v129_2) ((-1 : Int32)) (((v129_1 5)).toNatClampNeg)))).2 10) ((sX7_looksAt v129_1 v129_2 ((nf (bX7_passes_142 F G j129 v129_0 v129_1 v129_2) ((-1 : Int32)) (((v129_1 5)).toNatClampNeg)))).2 11) ((sX7_looksAt v129_1 v129_2 ((nf (bX7_passes_142 F G j129 v129_0 v129_1 v129_2) ((-1 : Int32)) (((v129_1 5)).toNatClampNeg)))).2 12) ((sX7_looksAt v129_1 v129_2 ((nf (bX7_passes_142 F G j129 v129_0 v129_1 v129_2) ((-1 : Int32)) (((v129_1 5)).toNatClampNeg)))).2 13) ((sX7_looksAt v129_1 v129_2 ((nf (bX7_passes_142 F G j129 v129_0 v129_1 v129_2) ((-1 : Int32)) (((v129_1 5)).toNatClampNeg)))).2 14) ((sX7_looksAt v129_1 v129_2 ((nf (bX7_passes_142 F G j129 v129_0 v129_1 v129_2) ((-1 : Int32)) (((v129_1 5)).toNatClampNeg)))).2 15) ((sX7_looksAt v129_1 v129_2 ((nf (bX7_passes_142 F G j129 v129_0 v129_1 v129_2) ((-1 : Int32)) (((v129_1 5)).toNatClampNeg)))).2 16) ((sX7_looksAt v129_1 v129_2 ((nf (bX7_passes_142 F G j129 v129_0 v129_1 v129_2) ((-1 : Int32)) (((v129_1 5)).toNatClampNeg)))).2 17) ((sX7_looksAt v129_1 v129_2 ((nf (bX7_passes_142 F G j129 v129_0 v129_1 v129_2) ((-1 : Int32)) (((v129_1 5)).toNatClampNeg)))).2 21) ((sX7_looksAt v129_1 v129_2 ((nf (bX7_passes_142 F G j129 v129_0 v129_1 v129_2) ((-1 : Int32)) (((v129_1 5)).toNatClampNeg)))).2 22) ((sX7_looksAt v129_1 v129_2 ((nf (bX7_passes_142 F G j129 v129_0 v129_1 v129_2) ((-1 : Int32)) (((v129_1 5)).toNatClampNeg)))).2 23) ((sX7_looksAt v129_1 v129_2 ((nf (bX7_passes_142 F G j129 v129_0 v129_1 v129_2) ((-1 : Int32)) (((v129_1 5)).toNatClampNeg)))).2 24) ((sX7_looksAt v129_1 v129_2 ((nf (bX7_passes_142 F G j129 v129_0 v129_1 v129_2) ((-1 : Int32)) (((v129_1 5)).toNatClampNeg)))).2 25)) 0 0 241 [(0, .ref (ad 0)), (1, .int ((v129_0 ||| ((1 : Int32) <<< ((nf (bX7_passes_142 F G j129 v129_0 v129_1 v129_2) ((-1 : Int32)) (((v129_1 5)).toNatClampNeg)) &&& 31))))), (2, .int (nI j129)), (3, .int ((nf (bX7_passes_142 F G j129 v129_0 v129_1 v129_2) ((-1 : Int32)) (((v129_1 5)).toNatClampNeg)))), (4, .int (nI ((((v129_1 5)).toNatClampNeg))))] []
          refine j_iinc C0 (v := nI (j129 + 1)) (L' := [(0, .ref (ad 0)), (1, .int ((v129_0 ||| ((1 : Int32) <<< ((nf (bX7_passes_142 F G j129 v129_0 v129_1 v129_2) ((-1 : Int32)) (((v129_1 5)).toNatClampNeg)) &&& 31))))), (2, .int (nI (j129 + 1))), (3, .int ((nf (bX7_passes_142 F G j129 v129_0 v129_1 v129_2) ((-1 : Int32)) (((v129_1 5)).toNatClampNeg)))), (4, .int (nI ((((v129_1 5)).toNatClampNeg))))]) dX7_passes_241 rfl (nI_inc j129) (by decide) rfl ?_
          refine j_goto C0 129 dX7_passes_244 (by decide) ?_
          rw [bX7_passes_129, if_neg q29] at K129
          refine j_locals (L' := [(0, .ref (ad 0)), (1, .int ((v129_0 ||| ((1 : Int32) <<< ((nf (bX7_passes_142 F G j129 v129_0 v129_1 v129_2) ((-1 : Int32)) (((v129_1 5)).toNatClampNeg)) &&& 31))))), (2, .int (nI (j129 + 1)))]) (fun q hq => by simp only [List.mem_cons, List.mem_nil_iff, or_false] at hq ⊢; rcases hq with rfl | rfl | rfl <;> simp) (lok_of rfl rfl) ?_
          exact K129
    ·
      show J p l e _ s m args below meth c A 6 _ (OV D Y A ad ((nf (bX7_passes_129 F G) ((0 : Int32), (hu (hu F 1 ((F 1) + (1 : Int32))) 19 (nf (bX7_passes_12 F G) ((F 19), (G 10), (G 13)) ((F 5).toNatClampNeg)).1), (hu (hu G 10 (nf (bX7_passes_12 F G) ((F 19), (G 10), (G 13)) ((F 5).toNatClampNeg)).2.1) 13 (nf (bX7_passes_12 F G) ((F 19), (G 10), (G 13)) ((F 5).toNatClampNeg)).2.2)) (((F 5)).toNatClampNeg)).2.1 0) ((nf (bX7_passes_129 F G) ((0 : Int32), (hu (hu F 1 ((F 1) + (1 : Int32))) 19 (nf (bX7_passes_12 F G) ((F 19), (G 10), (G 13)) ((F 5).toNatClampNeg)).1), (hu (hu G 10 (nf (bX7_passes_12 F G) ((F 19), (G 10), (G 13)) ((F 5).toNatClampNeg)).2.1) 13 (nf (bX7_passes_12 F G) ((F 19), (G 10), (G 13)) ((F 5).toNatClampNeg)).2.2)) (((F 5)).toNatClampNeg)).2.1 1) ((nf (bX7_passes_129 F G) ((0 : Int32), (hu (hu F 1 ((F 1) + (1 : Int32))) 19 (nf (bX7_passes_12 F G) ((F 19), (G 10), (G 13)) ((F 5).toNatClampNeg)).1), (hu (hu G 10 (nf (bX7_passes_12 F G) ((F 19), (G 10), (G 13)) ((F 5).toNatClampNeg)).2.1) 13 (nf (bX7_passes_12 F G) ((F 19), (G 10), (G 13)) ((F 5).toNatClampNeg)).2.2)) (((F 5)).toNatClampNeg)).2.1 5) ((nf (bX7_passes_129 F G) ((0 : Int32), (hu (hu F 1 ((F 1) + (1 : Int32))) 19 (nf (bX7_passes_12 F G) ((F 19), (G 10), (G 13)) ((F 5).toNatClampNeg)).1), (hu (hu G 10 (nf (bX7_passes_12 F G) ((F 19), (G 10), (G 13)) ((F 5).toNatClampNeg)).2.1) 13 (nf (bX7_passes_12 F G) ((F 19), (G 10), (G 13)) ((F 5).toNatClampNeg)).2.2)) (((F 5)).toNatClampNeg)).2.1 18) ((nf (bX7_passes_129 F G) ((0 : Int32), (hu (hu F 1 ((F 1) + (1 : Int32))) 19 (nf (bX7_passes_12 F G) ((F 19), (G 10), (G 13)) ((F 5).toNatClampNeg)).1), (hu (hu G 10 (nf (bX7_passes_12 F G) ((F 19), (G 10), (G 13)) ((F 5).toNatClampNeg)).2.1) 13 (nf (bX7_passes_12 F G) ((F 19), (G 10), (G 13)) ((F 5).toNatClampNeg)).2.2)) (((F 5)).toNatClampNeg)).2.1 19) ((nf (bX7_passes_129 F G) ((0 : Int32), (hu (hu F 1 ((F 1) + (1 : Int32))) 19 (nf (bX7_passes_12 F G) ((F 19), (G 10), (G 13)) ((F 5).toNatClampNeg)).1), (hu (hu G 10 (nf (bX7_passes_12 F G) ((F 19), (G 10), (G 13)) ((F 5).toNatClampNeg)).2.1) 13 (nf (bX7_passes_12 F G) ((F 19), (G 10), (G 13)) ((F 5).toNatClampNeg)).2.2)) (((F 5)).toNatClampNeg)).2.1 20) ((nf (bX7_passes_129 F G) ((0 : Int32), (hu (hu F 1 ((F 1) + (1 : Int32))) 19 (nf (bX7_passes_12 F G) ((F 19), (G 10), (G 13)) ((F 5).toNatClampNeg)).1), (hu (hu G 10 (nf (bX7_passes_12 F G) ((F 19), (G 10), (G 13)) ((F 5).toNatClampNeg)).2.1) 13 (nf (bX7_passes_12 F G) ((F 19), (G 10), (G 13)) ((F 5).toNatClampNeg)).2.2)) (((F 5)).toNatClampNeg)).2.2 2) ((nf (bX7_passes_129 F G) ((0 : Int32), (hu (hu F 1 ((F 1) + (1 : Int32))) 19 (nf (bX7_passes_12 F G) ((F 19), (G 10), (G 13)) ((F 5).toNatClampNeg)).1), (hu (hu G 10 (nf (bX7_passes_12 F G) ((F 19), (G 10), (G 13)) ((F 5).toNatClampNeg)).2.1) 13 (nf (bX7_passes_12 F G) ((F 19), (G 10), (G 13)) ((F 5).toNatClampNeg)).2.2)) (((F 5)).toNatClampNeg)).2.2 3) ((nf (bX7_passes_129 F G) ((0 : Int32), (hu (hu F 1 ((F 1) + (1 : Int32))) 19 (nf (bX7_passes_12 F G) ((F 19), (G 10), (G 13)) ((F 5).toNatClampNeg)).1), (hu (hu G 10 (nf (bX7_passes_12 F G) ((F 19), (G 10), (G 13)) ((F 5).toNatClampNeg)).2.1) 13 (nf (bX7_passes_12 F G) ((F 19), (G 10), (G 13)) ((F 5).toNatClampNeg)).2.2)) (((F 5)).toNatClampNeg)).2.2 4) ((nf (bX7_passes_129 F G) ((0 : Int32), (hu (hu F 1 ((F 1) + (1 : Int32))) 19 (nf (bX7_passes_12 F G) ((F 19), (G 10), (G 13)) ((F 5).toNatClampNeg)).1), (hu (hu G 10 (nf (bX7_passes_12 F G) ((F 19), (G 10), (G 13)) ((F 5).toNatClampNeg)).2.1) 13 (nf (bX7_passes_12 F G) ((F 19), (G 10), (G 13)) ((F 5).toNatClampNeg)).2.2)) (((F 5)).toNatClampNeg)).2.2 6) ((nf (bX7_passes_129 F G) ((0 : Int32), (hu (hu F 1 ((F 1) + (1 : Int32))) 19 (nf (bX7_passes_12 F G) ((F 19), (G 10), (G 13)) ((F 5).toNatClampNeg)).1), (hu (hu G 10 (nf (bX7_passes_12 F G) ((F 19), (G 10), (G 13)) ((F 5).toNatClampNeg)).2.1) 13 (nf (bX7_passes_12 F G) ((F 19), (G 10), (G 13)) ((F 5).toNatClampNeg)).2.2)) (((F 5)).toNatClampNeg)).2.2 7) ((nf (bX7_passes_129 F G) ((0 : Int32), (hu (hu F 1 ((F 1) + (1 : Int32))) 19 (nf (bX7_passes_12 F G) ((F 19), (G 10), (G 13)) ((F 5).toNatClampNeg)).1), (hu (hu G 10 (nf (bX7_passes_12 F G) ((F 19), (G 10), (G 13)) ((F 5).toNatClampNeg)).2.1) 13 (nf (bX7_passes_12 F G) ((F 19), (G 10), (G 13)) ((F 5).toNatClampNeg)).2.2)) (((F 5)).toNatClampNeg)).2.2 8) ((nf (bX7_passes_129 F G) ((0 : Int32), (hu (hu F 1 ((F 1) + (1 : Int32))) 19 (nf (bX7_passes_12 F G) ((F 19), (G 10), (G 13)) ((F 5).toNatClampNeg)).1), (hu (hu G 10 (nf (bX7_passes_12 F G) ((F 19), (G 10), (G 13)) ((F 5).toNatClampNeg)).2.1) 13 (nf (bX7_passes_12 F G) ((F 19), (G 10), (G 13)) ((F 5).toNatClampNeg)).2.2)) (((F 5)).toNatClampNeg)).2.2 9) ((nf (bX7_passes_129 F G) ((0 : Int32), (hu (hu F 1 ((F 1) + (1 : Int32))) 19 (nf (bX7_passes_12 F G) ((F 19), (G 10), (G 13)) ((F 5).toNatClampNeg)).1), (hu (hu G 10 (nf (bX7_passes_12 F G) ((F 19), (G 10), (G 13)) ((F 5).toNatClampNeg)).2.1) 13 (nf (bX7_passes_12 F G) ((F 19), (G 10), (G 13)) ((F 5).toNatClampNeg)).2.2)) (((F 5)).toNatClampNeg)).2.2 10) ((nf (bX7_passes_129 F G) ((0 : Int32), (hu (hu F 1 ((F 1) + (1 : Int32))) 19 (nf (bX7_passes_12 F G) ((F 19), (G 10), (G 13)) ((F 5).toNatClampNeg)).1), (hu (hu G 10 (nf (bX7_passes_12 F G) ((F 19), (G 10), (G 13)) ((F 5).toNatClampNeg)).2.1) 13 (nf (bX7_passes_12 F G) ((F 19), (G 10), (G 13)) ((F 5).toNatClampNeg)).2.2)) (((F 5)).toNatClampNeg)).2.2 11) ((nf (bX7_passes_129 F G) ((0 : Int32), (hu (hu F 1 ((F 1) + (1 : Int32))) 19 (nf (bX7_passes_12 F G) ((F 19), (G 10), (G 13)) ((F 5).toNatClampNeg)).1), (hu (hu G 10 (nf (bX7_passes_12 F G) ((F 19), (G 10), (G 13)) ((F 5).toNatClampNeg)).2.1) 13 (nf (bX7_passes_12 F G) ((F 19), (G 10), (G 13)) ((F 5).toNatClampNeg)).2.2)) (((F 5)).toNatClampNeg)).2.2 12) ((nf (bX7_passes_129 F G) ((0 : Int32), (hu (hu F 1 ((F 1) + (1 : Int32))) 19 (nf (bX7_passes_12 F G) ((F 19), (G 10), (G 13)) ((F 5).toNatClampNeg)).1), (hu (hu G 10 (nf (bX7_passes_12 F G) ((F 19), (G 10), (G 13)) ((F 5).toNatClampNeg)).2.1) 13 (nf (bX7_passes_12 F G) ((F 19), (G 10), (G 13)) ((F 5).toNatClampNeg)).2.2)) (((F 5)).toNatClampNeg)).2.2 13) ((nf (bX7_passes_129 F G) ((0 : Int32), (hu (hu F 1 ((F 1) + (1 : Int32))) 19 (nf (bX7_passes_12 F G) ((F 19), (G 10), (G 13)) ((F 5).toNatClampNeg)).1), (hu (hu G 10 (nf (bX7_passes_12 F G) ((F 19), (G 10), (G 13)) ((F 5).toNatClampNeg)).2.1) 13 (nf (bX7_passes_12 F G) ((F 19), (G 10), (G 13)) ((F 5).toNatClampNeg)).2.2)) (((F 5)).toNatClampNeg)).2.2 14) ((nf (bX7_passes_129 F G) ((0 : Int32), (hu (hu F 1 ((F 1) + (1 : Int32))) 19 (nf (bX7_passes_12 F G) ((F 19), (G 10), (G 13)) ((F 5).toNatClampNeg)).1), (hu (hu G 10 (nf (bX7_passes_12 F G) ((F 19), (G 10), (G 13)) ((F 5).toNatClampNeg)).2.1) 13 (nf (bX7_passes_12 F G) ((F 19), (G 10), (G 13)) ((F 5).toNatClampNeg)).2.2)) (((F 5)).toNatClampNeg)).2.2 15) ((nf (bX7_passes_129 F G) ((0 : Int32), (hu (hu F 1 ((F 1) + (1 : Int32))) 19 (nf (bX7_passes_12 F G) ((F 19), (G 10), (G 13)) ((F 5).toNatClampNeg)).1), (hu (hu G 10 (nf (bX7_passes_12 F G) ((F 19), (G 10), (G 13)) ((F 5).toNatClampNeg)).2.1) 13 (nf (bX7_passes_12 F G) ((F 19), (G 10), (G 13)) ((F 5).toNatClampNeg)).2.2)) (((F 5)).toNatClampNeg)).2.2 16) ((nf (bX7_passes_129 F G) ((0 : Int32), (hu (hu F 1 ((F 1) + (1 : Int32))) 19 (nf (bX7_passes_12 F G) ((F 19), (G 10), (G 13)) ((F 5).toNatClampNeg)).1), (hu (hu G 10 (nf (bX7_passes_12 F G) ((F 19), (G 10), (G 13)) ((F 5).toNatClampNeg)).2.1) 13 (nf (bX7_passes_12 F G) ((F 19), (G 10), (G 13)) ((F 5).toNatClampNeg)).2.2)) (((F 5)).toNatClampNeg)).2.2 17) ((nf (bX7_passes_129 F G) ((0 : Int32), (hu (hu F 1 ((F 1) + (1 : Int32))) 19 (nf (bX7_passes_12 F G) ((F 19), (G 10), (G 13)) ((F 5).toNatClampNeg)).1), (hu (hu G 10 (nf (bX7_passes_12 F G) ((F 19), (G 10), (G 13)) ((F 5).toNatClampNeg)).2.1) 13 (nf (bX7_passes_12 F G) ((F 19), (G 10), (G 13)) ((F 5).toNatClampNeg)).2.2)) (((F 5)).toNatClampNeg)).2.2 21) ((nf (bX7_passes_129 F G) ((0 : Int32), (hu (hu F 1 ((F 1) + (1 : Int32))) 19 (nf (bX7_passes_12 F G) ((F 19), (G 10), (G 13)) ((F 5).toNatClampNeg)).1), (hu (hu G 10 (nf (bX7_passes_12 F G) ((F 19), (G 10), (G 13)) ((F 5).toNatClampNeg)).2.1) 13 (nf (bX7_passes_12 F G) ((F 19), (G 10), (G 13)) ((F 5).toNatClampNeg)).2.2)) (((F 5)).toNatClampNeg)).2.2 22) ((nf (bX7_passes_129 F G) ((0 : Int32), (hu (hu F 1 ((F 1) + (1 : Int32))) 19 (nf (bX7_passes_12 F G) ((F 19), (G 10), (G 13)) ((F 5).toNatClampNeg)).1), (hu (hu G 10 (nf (bX7_passes_12 F G) ((F 19), (G 10), (G 13)) ((F 5).toNatClampNeg)).2.1) 13 (nf (bX7_passes_12 F G) ((F 19), (G 10), (G 13)) ((F 5).toNatClampNeg)).2.2)) (((F 5)).toNatClampNeg)).2.2 23) ((nf (bX7_passes_129 F G) ((0 : Int32), (hu (hu F 1 ((F 1) + (1 : Int32))) 19 (nf (bX7_passes_12 F G) ((F 19), (G 10), (G 13)) ((F 5).toNatClampNeg)).1), (hu (hu G 10 (nf (bX7_passes_12 F G) ((F 19), (G 10), (G 13)) ((F 5).toNatClampNeg)).2.1) 13 (nf (bX7_passes_12 F G) ((F 19), (G 10), (G 13)) ((F 5).toNatClampNeg)).2.2)) (((F 5)).toNatClampNeg)).2.2 24) ((nf (bX7_passes_129 F G) ((0 : Int32), (hu (hu F 1 ((F 1) + (1 : Int32))) 19 (nf (bX7_passes_12 F G) ((F 19), (G 10), (G 13)) ((F 5).toNatClampNeg)).1), (hu (hu G 10 (nf (bX7_passes_12 F G) ((F 19), (G 10), (G 13)) ((F 5).toNatClampNeg)).2.1) 13 (nf (bX7_passes_12 F G) ((F 19), (G 10), (G 13)) ((F 5).toNatClampNeg)).2.2)) (((F 5)).toNatClampNeg)).2.2 25)) 0 0 129 [(0, .ref (ad 0)), (1, .int ((nf (bX7_passes_129 F G) ((0 : Int32), (hu (hu F 1 ((F 1) + (1 : Int32))) 19 (nf (bX7_passes_12 F G) ((F 19), (G 10), (G 13)) ((F 5).toNatClampNeg)).1), (hu (hu G 10 (nf (bX7_passes_12 F G) ((F 19), (G 10), (G 13)) ((F 5).toNatClampNeg)).2.1) 13 (nf (bX7_passes_12 F G) ((F 19), (G 10), (G 13)) ((F 5).toNatClampNeg)).2.2)) (((F 5)).toNatClampNeg)).1)), (2, .int (nI ((((F 5)).toNatClampNeg))))] []
      have hvN := passes_inv F G ((0 : Int32), (hu (hu F 1 ((F 1) + (1 : Int32))) 19 (nf (bX7_passes_12 F G) ((F 19), (G 10), (G 13)) ((F 5).toNatClampNeg)).1), (hu (hu G 10 (nf (bX7_passes_12 F G) ((F 19), (G 10), (G 13)) ((F 5).toNatClampNeg)).2.1) 13 (nf (bX7_passes_12 F G) ((F 19), (G 10), (G 13)) ((F 5).toNatClampNeg)).2.2)) ⟨⟨hn1, hs, hm, hb, hw, hr⟩, rfl, rfl⟩ (((F 5)).toNatClampNeg)
      refine j_iload_n C0 dX7_passes_129 rfl ?_
      refine j_aload_n C0 dX7_passes_130 rfl ?_
      refine r_gf_5 C0 (v := ((nf (bX7_passes_129 F G) ((0 : Int32), (hu (hu F 1 ((F 1) + (1 : Int32))) 19 (nf (bX7_passes_12 F G) ((F 19), (G 10), (G 13)) ((F 5).toNatClampNeg)).1), (hu (hu G 10 (nf (bX7_passes_12 F G) ((F 19), (G 10), (G 13)) ((F 5).toNatClampNeg)).2.1) 13 (nf (bX7_passes_12 F G) ((F 19), (G 10), (G 13)) ((F 5).toNatClampNeg)).2.2)) (((F 5)).toNatClampNeg)).2.1 5)) dX7_passes_131 rfl ?_
      refine j_icmp_ge C0 247 dX7_passes_134 (by decide) (fun _ => ?_) (fun z => absurd (cl_le (by rw [hvN.2.2])) z)
      exact j_vret C0 rfl dX7_passes_247 (fun H h => by rw [sX7_passes]; exact h)
theorem passes_RI {F : Nat → Int32} {G : Nat → Nat → Int32} (hI : RI F G) (hn1 : ct (F 1 + (1 : Int32)) 3000) : RI (sX7_passes F G).1 (sX7_passes F G).2 ∧ (sX7_passes F G).1 1 = F 1 + (1 : Int32) ∧ (sX7_passes F G).1 5 = F 5 := by
  obtain ⟨hn, hs, hm, hb, hw, hr⟩ := id hI
  unfold sX7_passes
  refine passes_inv F G _ ?_ _
  exact ⟨⟨hn1, hs, hm, hb, hw, hr⟩, rfl, rfl⟩
end
section
theorem isIn_next {a : Int32} (h : ¬ vX7_isIn a (0 : Int32) (3000 : Int32) = 0) : vp_in (a + (1 : Int32)) 3160 := by
  obtain ⟨k, h1, rfl⟩ := vp_in_of (isIn_vp (n := 3001) h (by decide)) (by decide)
  rw [nI_1]
  exact vp_in_nI (by omega) (by decide)
theorem shp_in {x : Int32} (h : ct x 30) (h2 : ¬ x = (30 : Int32)) : vp_in x 30 := by
  obtain ⟨k, h1, rfl⟩ := h
  refine vp_in_nI ?_ (by decide)
  rcases Nat.lt_or_ge k 30 with q | q
  · exact q
  · exact absurd (show nI k = 30 by rw [show k = 30 by omega]; rfl) h2
theorem wind_facts {x : Int32} {a b : Int32} (hn : ct x 3000) (h1 : ¬ vX7_isIn a (x + (3 : Int32)) (3100 : Int32) = 0) (h2 : ¬ vX7_isIn b (1 : Int32) (48 : Int32) = 0) : ∃ u v : Nat, u ≤ 3100 ∧ v ≤ 48 ∧ a = nI u ∧ b = nI v := by
  obtain ⟨n, hn1, rfl⟩ := hn
  have k1 := isIn_t h1
  have k2 := isIn_t h2
  rw [show (3 : Int32) = nI 3 from rfl, nI_add] at k1
  simp only [Int32.le_iff_toInt_le] at k1 k2
  rw [nI_toInt (by omega)] at k1
  have e1 : (3100 : Int32).toInt = 3100 := by decide
  have e2 : (48 : Int32).toInt = 48 := by decide
  have e3 : (1 : Int32).toInt = 1 := by decide
  obtain ⟨u, hu, eu⟩ := vp_in_of (x := a) (n := 3101) (vp_in_iff.mpr (by omega)) (by decide)
  obtain ⟨v, hv, ev⟩ := vp_in_of (x := b) (n := 49) (vp_in_iff.mpr (by omega)) (by decide)
  exact ⟨u, v, by omega, by omega, eu, ev⟩
theorem pass_facts {x a : Int32} (hn : ct x 3000) (h1 : ¬ vX7_isIn a (1 : Int32) (100 : Int32) = 0) (h2 : x + a ≤ (3000 : Int32)) : ∃ n u : Nat, x = nI n ∧ a = nI u ∧ 1 ≤ u ∧ u ≤ 100 ∧ n + u ≤ 3000 := by
  obtain ⟨n, hn1, rfl⟩ := hn
  have k1 := isIn_t h1
  simp only [Int32.le_iff_toInt_le] at k1
  have e1 : (100 : Int32).toInt = 100 := by decide
  have e3 : (1 : Int32).toInt = 1 := by decide
  obtain ⟨u, hu, eu⟩ := vp_in_of (x := a) (n := 101) (vp_in_iff.mpr (by omega)) (by decide)
  subst eu
  rw [nI_toInt (by omega)] at k1
  rw [nI_add, show (3000 : Int32) = nI 3000 from rfl, nI_leI (by omega) (by decide)] at h2
  exact ⟨n, u, rfl, rfl, by omega, by omega, h2⟩
/-! ## table(II)I -/
def vX7_table (F : Nat → Int32) (G : Nat → Nat → Int32) (a1 : Int32) (a2 : Int32) : Int32 := (if (vX7_isIn (a1) ((0 : Int32)) ((11 : Int32))) = 0 then (0 : Int32) else (if (vX7_isIn (a2) ((0 : Int32)) ((150 : Int32))) = 0 then (0 : Int32) else (if (F 20) ≤ 0 then ((G 2) (a1).toNatClampNeg) else (0 : Int32))))
def sX7_table (F : Nat → Int32) (G : Nat → Nat → Int32) (a1 : Int32) (a2 : Int32) : (Nat → Int32) × (Nat → Nat → Int32) := (if (vX7_isIn (a1) ((0 : Int32)) ((11 : Int32))) = 0 then ((hu F 0 (1 : Int32)), G) else (if (vX7_isIn (a2) ((0 : Int32)) ((150 : Int32))) = 0 then ((hu F 0 (2 : Int32)), G) else (if (F 20) ≤ 0 then ((hu F 0 (0 : Int32)), (hu G 2 (upd (G 2) (a1).toNatClampNeg (a2)))) else ((hu F 0 (3 : Int32)), G))))
set_option maxRecDepth 100000 in
set_option maxHeartbeats 4000000 in
theorem k_X7_table {l : Launch} (hl : l.stackTraces = false) {D : va_G} {Y : Nat → ClassId} {A : Nat → Prop} {E : State → Prop} (ad : Nat → Nat) (F : Nat → Int32) (G : Nat → Nat → Int32) (a1 : Int32) (a2 : Int32) (hI : RI F G) : KM l yX7_table cX7_table 4 (some .int) D Y A E 1 22 0 0 [.ref (ad 0), .int (a1), .int (a2)] (OR D Y A ad F G) (some (.int (vX7_table F G a1 a2))) (OR D Y A ad (sX7_table F G a1 a2).1 (sX7_table F G a1 a2).2) := by
  refine KM_of RX7 [(0, .ref (ad 0)), (1, .int (a1)), (2, .int (a2))] rfl (by decide) hl (Nat.le_of_ble_eq_true rfl) rfl (lok_of rfl rfl) ?_
  intro p e s m args below meth c C0
  obtain ⟨hn, hs, hm, hb, hw, hr⟩ := id hI
  refine j_aload_n C0 dX7_table_0 rfl ?_
  refine j_iload_n C0 dX7_table_1 rfl ?_
  refine j_iconst C0 (v := 0) dX7_table_2 (by decide) ?_
  refine j_bipush C0 (v := 11) dX7_table_3 (by decide) ?_
  refine j_callSv C0 (k_X7_isIn hl (a1) ((0 : Int32)) ((11 : Int32)) ) ms_X7_isIn wm_X7_78 rfl rfl ⟨Nat.le_of_ble_eq_true rfl, Nat.le_of_ble_eq_true rfl⟩ (Nat.le_of_ble_eq_true rfl) ⟨Nat.le_refl _, Nat.le_refl _⟩ dX7_table_5 ?_
  refine j_if_ne C0 15 dX7_table_8 (by decide) (fun (q1 : ¬ ((vX7_isIn (a1) ((0 : Int32)) ((11 : Int32))) = 0)) => ?_) (fun (q1 : (vX7_isIn (a1) ((0 : Int32)) ((11 : Int32))) = 0) => ?_)
  ·
    refine j_iload_n C0 dX7_table_15 rfl ?_
    refine j_iconst C0 (v := 0) dX7_table_16 (by decide) ?_
    refine j_sipush C0 (v := 150) dX7_table_17 (by decide) ?_
    refine j_callSv C0 (k_X7_isIn hl (a2) ((0 : Int32)) ((150 : Int32)) ) ms_X7_isIn wm_X7_78 rfl rfl ⟨Nat.le_of_ble_eq_true rfl, Nat.le_of_ble_eq_true rfl⟩ (Nat.le_of_ble_eq_true rfl) ⟨Nat.le_refl _, Nat.le_refl _⟩ dX7_table_20 ?_
    refine j_if_ne C0 30 dX7_table_23 (by decide) (fun (q2 : ¬ ((vX7_isIn (a2) ((0 : Int32)) ((150 : Int32))) = 0)) => ?_) (fun (q2 : (vX7_isIn (a2) ((0 : Int32)) ((150 : Int32))) = 0) => ?_)
    ·
      refine j_aload_n C0 dX7_table_30 rfl ?_
      refine r_gf_20 C0 (v := (F 20)) dX7_table_31 rfl ?_
      refine j_if_le C0 41 dX7_table_34 (by decide) (fun (q3 : (F 20) ≤ 0) => ?_) (fun (q3 : ¬ ((F 20) ≤ 0)) => ?_)
      ·
        refine j_iconst C0 (v := 0) dX7_table_41 (by decide) ?_
        refine j_callVv C0 (k_X7_holds hl ad F G ((0 : Int32)) ) mv_X7_holds wm_X7_85 (r_recv C0) rfl rfl ⟨Nat.le_of_ble_eq_true rfl, Nat.le_of_ble_eq_true rfl⟩ (Nat.le_of_ble_eq_true rfl) ⟨Nat.le_refl _, Nat.le_refl _⟩ dX7_table_42 ?_
        refine j_top (1 : Int32) (by unfold vX7_holds; decide +kernel) ?_
        show J p l e _ s m args below meth c A 4 _ (OV D Y A ad (0 : Int32) (F 1) (F 5) (F 18) (F 19) (F 20) (G 2) (G 3) (G 4) (G 6) (G 7) (G 8) (G 9) (G 10) (G 11) (G 12) (G 13) (G 14) (G 15) (G 16) (G 17) (G 21) (G 22) (G 23) (G 24) (G 25)) 0 0 45 [(0, .ref (ad 0)), (1, .int (a1)), (2, .int (a2))] [.int ((1 : Int32))]
        refine j_if_ne C0 50 dX7_table_45 (by decide) (fun _ => ?_) (fun z => absurd z (by decide))
        refine j_aload_n C0 dX7_table_50 rfl ?_
        refine r_gf_2 C0 dX7_table_51 ?_
        refine j_iload_n C0 dX7_table_54 rfl ?_
        refine r_ld_2 C0 (v := ((G 2) (a1).toNatClampNeg)) (isIn_vp q1 (by decide)) dX7_table_55 rfl ?_
        refine j_istore_n C0 (L' := [(0, .ref (ad 0)), (1, .int (a1)), (2, .int (a2)), (3, .int (((G 2) (a1).toNatClampNeg)))]) dX7_table_56 (by decide) rfl ?_
        refine j_aload_n C0 dX7_table_57 rfl ?_
        refine r_gf_2 C0 dX7_table_58 ?_
        refine j_iload_n C0 dX7_table_61 rfl ?_
        refine j_iload_n C0 dX7_table_62 rfl ?_
        refine r_st_2 C0 (isIn_vp q1 (by decide)) dX7_table_63 ?_
        refine j_iload_n C0 dX7_table_64 rfl ?_
        exact j_iretE C0 rfl (by rw [vX7_table, if_neg q1, if_neg q2, if_pos q3]) dX7_table_65 (fun H h => by rw [sX7_table, if_neg q1, if_neg q2, if_pos q3]; exact h)
      ·
        refine j_iconst C0 (v := 3) dX7_table_37 (by decide) ?_
        refine j_goto C0 42 dX7_table_38 (by decide) ?_
        refine j_callVv C0 (k_X7_holds hl ad F G ((3 : Int32)) ) mv_X7_holds wm_X7_85 (r_recv C0) rfl rfl ⟨Nat.le_of_ble_eq_true rfl, Nat.le_of_ble_eq_true rfl⟩ (Nat.le_of_ble_eq_true rfl) ⟨Nat.le_refl _, Nat.le_refl _⟩ dX7_table_42 ?_
        refine j_top (0 : Int32) (by unfold vX7_holds; decide +kernel) ?_
        show J p l e _ s m args below meth c A 4 _ (OV D Y A ad (3 : Int32) (F 1) (F 5) (F 18) (F 19) (F 20) (G 2) (G 3) (G 4) (G 6) (G 7) (G 8) (G 9) (G 10) (G 11) (G 12) (G 13) (G 14) (G 15) (G 16) (G 17) (G 21) (G 22) (G 23) (G 24) (G 25)) 0 0 45 [(0, .ref (ad 0)), (1, .int (a1)), (2, .int (a2))] [.int ((0 : Int32))]
        refine j_if_ne C0 50 dX7_table_45 (by decide) (fun z => absurd (by decide) z) (fun _ => ?_)
        refine j_iconst C0 (v := 0) dX7_table_48 (by decide) ?_
        exact j_iretE C0 rfl (by rw [vX7_table, if_neg q1, if_neg q2, if_neg q3]) dX7_table_49 (fun H h => by rw [sX7_table, if_neg q1, if_neg q2, if_neg q3]; exact h)
    ·
      refine j_iconst C0 (v := 2) dX7_table_26 (by decide) ?_
      refine j_goto C0 42 dX7_table_27 (by decide) ?_
      refine j_callVv C0 (k_X7_holds hl ad F G ((2 : Int32)) ) mv_X7_holds wm_X7_85 (r_recv C0) rfl rfl ⟨Nat.le_of_ble_eq_true rfl, Nat.le_of_ble_eq_true rfl⟩ (Nat.le_of_ble_eq_true rfl) ⟨Nat.le_refl _, Nat.le_refl _⟩ dX7_table_42 ?_
      refine j_top (0 : Int32) (by unfold vX7_holds; decide +kernel) ?_
      show J p l e _ s m args below meth c A 4 _ (OV D Y A ad (2 : Int32) (F 1) (F 5) (F 18) (F 19) (F 20) (G 2) (G 3) (G 4) (G 6) (G 7) (G 8) (G 9) (G 10) (G 11) (G 12) (G 13) (G 14) (G 15) (G 16) (G 17) (G 21) (G 22) (G 23) (G 24) (G 25)) 0 0 45 [(0, .ref (ad 0)), (1, .int (a1)), (2, .int (a2))] [.int ((0 : Int32))]
      refine j_if_ne C0 50 dX7_table_45 (by decide) (fun z => absurd (by decide) z) (fun _ => ?_)
      refine j_iconst C0 (v := 0) dX7_table_48 (by decide) ?_
      exact j_iretE C0 rfl (by rw [vX7_table, if_neg q1, if_pos q2]) dX7_table_49 (fun H h => by rw [sX7_table, if_neg q1, if_pos q2]; exact h)
  ·
    refine j_iconst C0 (v := 1) dX7_table_11 (by decide) ?_
    refine j_goto C0 42 dX7_table_12 (by decide) ?_
    refine j_callVv C0 (k_X7_holds hl ad F G ((1 : Int32)) ) mv_X7_holds wm_X7_85 (r_recv C0) rfl rfl ⟨Nat.le_of_ble_eq_true rfl, Nat.le_of_ble_eq_true rfl⟩ (Nat.le_of_ble_eq_true rfl) ⟨Nat.le_refl _, Nat.le_refl _⟩ dX7_table_42 ?_
    refine j_top (0 : Int32) (by unfold vX7_holds; decide +kernel) ?_
    show J p l e _ s m args below meth c A 4 _ (OV D Y A ad (1 : Int32) (F 1) (F 5) (F 18) (F 19) (F 20) (G 2) (G 3) (G 4) (G 6) (G 7) (G 8) (G 9) (G 10) (G 11) (G 12) (G 13) (G 14) (G 15) (G 16) (G 17) (G 21) (G 22) (G 23) (G 24) (G 25)) 0 0 45 [(0, .ref (ad 0)), (1, .int (a1)), (2, .int (a2))] [.int ((0 : Int32))]
    refine j_if_ne C0 50 dX7_table_45 (by decide) (fun z => absurd (by decide) z) (fun _ => ?_)
    refine j_iconst C0 (v := 0) dX7_table_48 (by decide) ?_
    exact j_iretE C0 rfl (by rw [vX7_table, if_pos q1]) dX7_table_49 (fun H h => by rw [sX7_table, if_pos q1]; exact h)
/-! ## wind(III)I -/
def bX7_wind_62 (F : Nat → Int32) (G : Nat → Nat → Int32) (a1 : Int32) (a2 : Int32) (a3 : Int32) (j62 : Nat) (v62 : (Nat → Int32)) : (Nat → Int32) := ((upd v62 ((a1 + nI (j62))).toNatClampNeg (a3)))
def vX7_wind (F : Nat → Int32) (G : Nat → Nat → Int32) (a1 : Int32) (a2 : Int32) (a3 : Int32) : Int32 := (if (vX7_isIn (a1) (((F 1) + (3 : Int32))) ((3100 : Int32))) = 0 then (0 : Int32) else (if (vX7_isIn (a2) ((1 : Int32)) ((48 : Int32))) = 0 then (0 : Int32) else (if (vX7_isIn (a3) ((-40 : Int32)) ((40 : Int32))) = 0 then (0 : Int32) else ((G 3) (a1).toNatClampNeg))))
def sX7_wind (F : Nat → Int32) (G : Nat → Nat → Int32) (a1 : Int32) (a2 : Int32) (a3 : Int32) : (Nat → Int32) × (Nat → Nat → Int32) := (if (vX7_isIn (a1) (((F 1) + (3 : Int32))) ((3100 : Int32))) = 0 then ((hu F 0 (1 : Int32)), G) else (if (vX7_isIn (a2) ((1 : Int32)) ((48 : Int32))) = 0 then ((hu F 0 (1 : Int32)), G) else (if (vX7_isIn (a3) ((-40 : Int32)) ((40 : Int32))) = 0 then ((hu F 0 (1 : Int32)), G) else ((hu F 0 (0 : Int32)), (hu G 3 (nf (bX7_wind_62 F G a1 a2 a3) ((G 3)) ((a2).toNatClampNeg)))))))
set_option maxRecDepth 100000 in
set_option maxHeartbeats 4000000 in
theorem k_X7_wind {l : Launch} (hl : l.stackTraces = false) {D : va_G} {Y : Nat → ClassId} {A : Nat → Prop} {E : State → Prop} (ad : Nat → Nat) (F : Nat → Int32) (G : Nat → Nat → Int32) (a1 : Int32) (a2 : Int32) (a3 : Int32) (hI : RI F G) : KM l yX7_wind cX7_wind 6 (some .int) D Y A E 1 22 0 0 [.ref (ad 0), .int (a1), .int (a2), .int (a3)] (OR D Y A ad F G) (some (.int (vX7_wind F G a1 a2 a3))) (OR D Y A ad (sX7_wind F G a1 a2 a3).1 (sX7_wind F G a1 a2 a3).2) := by
  refine KM_of RX7 [(0, .ref (ad 0)), (1, .int (a1)), (2, .int (a2)), (3, .int (a3))] rfl (by decide) hl (Nat.le_of_ble_eq_true rfl) rfl (lok_of rfl rfl) ?_
  intro p e s m args below meth c C0
  obtain ⟨hn, hs, hm, hb, hw, hr⟩ := id hI
  refine j_aload_n C0 dX7_wind_0 rfl ?_
  refine j_iload_n C0 dX7_wind_1 rfl ?_
  refine j_aload_n C0 dX7_wind_2 rfl ?_
  refine r_gf_1 C0 (v := (F 1)) dX7_wind_3 rfl ?_
  refine j_iconst C0 (v := 3) dX7_wind_6 (by decide) ?_
  refine j_iadd C0 dX7_wind_7 ?_
  refine j_sipush C0 (v := 3100) dX7_wind_8 (by decide) ?_
  refine j_callSv C0 (k_X7_isIn hl (a1) (((F 1) + (3 : Int32))) ((3100 : Int32)) ) ms_X7_isIn wm_X7_78 rfl rfl ⟨Nat.le_of_ble_eq_true rfl, Nat.le_of_ble_eq_true rfl⟩ (Nat.le_of_ble_eq_true rfl) ⟨Nat.le_refl _, Nat.le_refl _⟩ dX7_wind_11 ?_
  refine j_if_eq C0 42 dX7_wind_14 (by decide) (fun (q1 : (vX7_isIn (a1) (((F 1) + (3 : Int32))) ((3100 : Int32))) = 0) => ?_) (fun (q1 : ¬ ((vX7_isIn (a1) (((F 1) + (3 : Int32))) ((3100 : Int32))) = 0)) => ?_)
  ·
    refine j_iconst C0 (v := 1) dX7_wind_42 (by decide) ?_
    refine j_callVv C0 (k_X7_holds hl ad F G ((1 : Int32)) ) mv_X7_holds wm_X7_85 (r_recv C0) rfl rfl ⟨Nat.le_of_ble_eq_true rfl, Nat.le_of_ble_eq_true rfl⟩ (Nat.le_of_ble_eq_true rfl) ⟨Nat.le_refl _, Nat.le_refl _⟩ dX7_wind_43 ?_
    refine j_top (0 : Int32) (by unfold vX7_holds; decide +kernel) ?_
    show J p l e _ s m args below meth c A 6 _ (OV D Y A ad (1 : Int32) (F 1) (F 5) (F 18) (F 19) (F 20) (G 2) (G 3) (G 4) (G 6) (G 7) (G 8) (G 9) (G 10) (G 11) (G 12) (G 13) (G 14) (G 15) (G 16) (G 17) (G 21) (G 22) (G 23) (G 24) (G 25)) 0 0 46 [(0, .ref (ad 0)), (1, .int (a1)), (2, .int (a2)), (3, .int (a3))] [.int ((0 : Int32))]
    refine j_if_ne C0 51 dX7_wind_46 (by decide) (fun z => absurd (by decide) z) (fun _ => ?_)
    refine j_iconst C0 (v := 0) dX7_wind_49 (by decide) ?_
    exact j_iretE C0 rfl (by rw [vX7_wind, if_pos q1]) dX7_wind_50 (fun H h => by rw [sX7_wind, if_pos q1]; exact h)
  ·
    refine j_iload_n C0 dX7_wind_17 rfl ?_
    refine j_iconst C0 (v := 1) dX7_wind_18 (by decide) ?_
    refine j_bipush C0 (v := 48) dX7_wind_19 (by decide) ?_
    refine j_callSv C0 (k_X7_isIn hl (a2) ((1 : Int32)) ((48 : Int32)) ) ms_X7_isIn wm_X7_78 rfl rfl ⟨Nat.le_of_ble_eq_true rfl, Nat.le_of_ble_eq_true rfl⟩ (Nat.le_of_ble_eq_true rfl) ⟨Nat.le_refl _, Nat.le_refl _⟩ dX7_wind_21 ?_
    refine j_if_eq C0 42 dX7_wind_24 (by decide) (fun (q3 : (vX7_isIn (a2) ((1 : Int32)) ((48 : Int32))) = 0) => ?_) (fun (q3 : ¬ ((vX7_isIn (a2) ((1 : Int32)) ((48 : Int32))) = 0)) => ?_)
    ·
      refine j_iconst C0 (v := 1) dX7_wind_42 (by decide) ?_
      refine j_callVv C0 (k_X7_holds hl ad F G ((1 : Int32)) ) mv_X7_holds wm_X7_85 (r_recv C0) rfl rfl ⟨Nat.le_of_ble_eq_true rfl, Nat.le_of_ble_eq_true rfl⟩ (Nat.le_of_ble_eq_true rfl) ⟨Nat.le_refl _, Nat.le_refl _⟩ dX7_wind_43 ?_
      refine j_top (0 : Int32) (by unfold vX7_holds; decide +kernel) ?_
      show J p l e _ s m args below meth c A 6 _ (OV D Y A ad (1 : Int32) (F 1) (F 5) (F 18) (F 19) (F 20) (G 2) (G 3) (G 4) (G 6) (G 7) (G 8) (G 9) (G 10) (G 11) (G 12) (G 13) (G 14) (G 15) (G 16) (G 17) (G 21) (G 22) (G 23) (G 24) (G 25)) 0 0 46 [(0, .ref (ad 0)), (1, .int (a1)), (2, .int (a2)), (3, .int (a3))] [.int ((0 : Int32))]
      refine j_if_ne C0 51 dX7_wind_46 (by decide) (fun z => absurd (by decide) z) (fun _ => ?_)
      refine j_iconst C0 (v := 0) dX7_wind_49 (by decide) ?_
      exact j_iretE C0 rfl (by rw [vX7_wind, if_neg q1, if_pos q3]) dX7_wind_50 (fun H h => by rw [sX7_wind, if_neg q1, if_pos q3]; exact h)
    ·
      refine j_iload_n C0 dX7_wind_27 rfl ?_
      refine j_bipush C0 (v := -40) dX7_wind_28 (by decide) ?_
      refine j_bipush C0 (v := 40) dX7_wind_30 (by decide) ?_
      refine j_callSv C0 (k_X7_isIn hl (a3) ((-40 : Int32)) ((40 : Int32)) ) ms_X7_isIn wm_X7_78 rfl rfl ⟨Nat.le_of_ble_eq_true rfl, Nat.le_of_ble_eq_true rfl⟩ (Nat.le_of_ble_eq_true rfl) ⟨Nat.le_refl _, Nat.le_refl _⟩ dX7_wind_32 ?_
      refine j_if_eq C0 42 dX7_wind_35 (by decide) (fun (q5 : (vX7_isIn (a3) ((-40 : Int32)) ((40 : Int32))) = 0) => ?_) (fun (q5 : ¬ ((vX7_isIn (a3) ((-40 : Int32)) ((40 : Int32))) = 0)) => ?_)
      ·
        refine j_iconst C0 (v := 1) dX7_wind_42 (by decide) ?_
        refine j_callVv C0 (k_X7_holds hl ad F G ((1 : Int32)) ) mv_X7_holds wm_X7_85 (r_recv C0) rfl rfl ⟨Nat.le_of_ble_eq_true rfl, Nat.le_of_ble_eq_true rfl⟩ (Nat.le_of_ble_eq_true rfl) ⟨Nat.le_refl _, Nat.le_refl _⟩ dX7_wind_43 ?_
        refine j_top (0 : Int32) (by unfold vX7_holds; decide +kernel) ?_
        show J p l e _ s m args below meth c A 6 _ (OV D Y A ad (1 : Int32) (F 1) (F 5) (F 18) (F 19) (F 20) (G 2) (G 3) (G 4) (G 6) (G 7) (G 8) (G 9) (G 10) (G 11) (G 12) (G 13) (G 14) (G 15) (G 16) (G 17) (G 21) (G 22) (G 23) (G 24) (G 25)) 0 0 46 [(0, .ref (ad 0)), (1, .int (a1)), (2, .int (a2)), (3, .int (a3))] [.int ((0 : Int32))]
        refine j_if_ne C0 51 dX7_wind_46 (by decide) (fun z => absurd (by decide) z) (fun _ => ?_)
        refine j_iconst C0 (v := 0) dX7_wind_49 (by decide) ?_
        exact j_iretE C0 rfl (by rw [vX7_wind, if_neg q1, if_neg q3, if_pos q5]) dX7_wind_50 (fun H h => by rw [sX7_wind, if_neg q1, if_neg q3, if_pos q5]; exact h)
      ·
        refine j_iconst C0 (v := 0) dX7_wind_38 (by decide) ?_
        refine j_goto C0 43 dX7_wind_39 (by decide) ?_
        refine j_callVv C0 (k_X7_holds hl ad F G ((0 : Int32)) ) mv_X7_holds wm_X7_85 (r_recv C0) rfl rfl ⟨Nat.le_of_ble_eq_true rfl, Nat.le_of_ble_eq_true rfl⟩ (Nat.le_of_ble_eq_true rfl) ⟨Nat.le_refl _, Nat.le_refl _⟩ dX7_wind_43 ?_
        refine j_top (1 : Int32) (by unfold vX7_holds; decide +kernel) ?_
        show J p l e _ s m args below meth c A 6 _ (OV D Y A ad (0 : Int32) (F 1) (F 5) (F 18) (F 19) (F 20) (G 2) (G 3) (G 4) (G 6) (G 7) (G 8) (G 9) (G 10) (G 11) (G 12) (G 13) (G 14) (G 15) (G 16) (G 17) (G 21) (G 22) (G 23) (G 24) (G 25)) 0 0 46 [(0, .ref (ad 0)), (1, .int (a1)), (2, .int (a2)), (3, .int (a3))] [.int ((1 : Int32))]
        refine j_if_ne C0 51 dX7_wind_46 (by decide) (fun _ => ?_) (fun z => absurd z (by decide))
        refine j_aload_n C0 dX7_wind_51 rfl ?_
        refine r_gf_3 C0 dX7_wind_52 ?_
        refine j_iload_n C0 dX7_wind_55 rfl ?_
        refine r_ld_3 C0 (v := ((G 3) (a1).toNatClampNeg)) (by obtain ⟨u, v, hx, hv, ea, eb⟩ := (wind_facts hn q1 q3); rw [ea]; exact vp_in_nI (by omega) (by decide)) dX7_wind_56 rfl ?_
        refine j_istore C0 (L' := [(0, .ref (ad 0)), (1, .int (a1)), (2, .int (a2)), (3, .int (a3)), (4, .int (((G 3) (a1).toNatClampNeg)))]) dX7_wind_57 (by decide) rfl ?_
        refine j_iload_n C0 dX7_wind_59 rfl ?_
        refine j_istore C0 (L' := [(0, .ref (ad 0)), (1, .int (a1)), (2, .int (a2)), (3, .int (a3)), (4, .int (((G 3) (a1).toNatClampNeg))), (5, .int (a1))]) dX7_wind_60 (by decide) rfl ?_
        obtain ⟨u, v, hx, hv, ea, eb⟩ := (wind_facts hn q1 q3)
        have hk : ∀ j, a1 + nI j = nI (u + j) := fun j => by rw [ea, nI_add]
        have hk2 : a1 + a2 = nI (u + v) := by rw [ea, eb, nI_add]
        have hN : a2.toNatClampNeg = v := by rw [eb, nI_clamp (by omega)]
        refine j_castL (L' := [(0, .ref (ad 0)), (1, .int (a1)), (2, .int (a2)), (3, .int (a3)), (4, .int (((G 3) (a1).toNatClampNeg))), (5, .int ((a1 + nI (0))))]) (by simp only [k_zero]) ?_
        refine hb_lp (P := fun (j : Nat) (v : (Nat → Int32)) => J p l e _ s m args below meth c A 6 _ (OV D Y A ad (0 : Int32) (F 1) (F 5) (F 18) (F 19) (F 20) (G 2) v (G 4) (G 6) (G 7) (G 8) (G 9) (G 10) (G 11) (G 12) (G 13) (G 14) (G 15) (G 16) (G 17) (G 21) (G 22) (G 23) (G 24) (G 25)) 0 0 62 [(0, .ref (ad 0)), (1, .int (a1)), (2, .int (a2)), (3, .int (a3)), (4, .int (((G 3) (a1).toNatClampNeg))), (5, .int ((a1 + nI (j))))] []) (bX7_wind_62 F G a1 a2 a3) ((G 3)) ((a2).toNatClampNeg) ?_ ?_
        ·
          intro j62 hj62 K62
          generalize nf (bX7_wind_62 F G a1 a2 a3) ((G 3)) j62 = v62 at K62 ⊢
          show J p l e _ s m args below meth c A 6 _ (OV D Y A ad (0 : Int32) (F 1) (F 5) (F 18) (F 19) (F 20) (G 2) v62 (G 4) (G 6) (G 7) (G 8) (G 9) (G 10) (G 11) (G 12) (G 13) (G 14) (G 15) (G 16) (G 17) (G 21) (G 22) (G 23) (G 24) (G 25)) 0 0 62 [(0, .ref (ad 0)), (1, .int (a1)), (2, .int (a2)), (3, .int (a3)), (4, .int (((G 3) (a1).toNatClampNeg))), (5, .int ((a1 + nI (j62))))] []
          replace K62 : J p l e _ s m args below meth c A 6 _ (OV D Y A ad (0 : Int32) (F 1) (F 5) (F 18) (F 19) (F 20) (G 2) (bX7_wind_62 F G a1 a2 a3 j62 v62) (G 4) (G 6) (G 7) (G 8) (G 9) (G 10) (G 11) (G 12) (G 13) (G 14) (G 15) (G 16) (G 17) (G 21) (G 22) (G 23) (G 24) (G 25)) 0 0 62 [(0, .ref (ad 0)), (1, .int (a1)), (2, .int (a2)), (3, .int (a3)), (4, .int (((G 3) (a1).toNatClampNeg))), (5, .int ((a1 + nI (j62 + 1))))] [] := K62
          have hj62 : j62 < v := by rw [← hN]; exact hj62
          refine j_iload C0 dX7_wind_62 rfl ?_
          refine j_iload_n C0 dX7_wind_64 rfl ?_
          refine j_iload_n C0 dX7_wind_65 rfl ?_
          refine j_iadd C0 dX7_wind_66 ?_
          refine j_icmp_ge C0 84 dX7_wind_67 (by decide) (fun z => absurd z (by rw [hk, hk2]; exact nI_ge (by omega) (by omega))) (fun _ => ?_)
          refine j_aload_n C0 dX7_wind_70 rfl ?_
          refine r_gf_3 C0 dX7_wind_71 ?_
          refine j_iload C0 dX7_wind_74 rfl ?_
          refine j_iload_n C0 dX7_wind_76 rfl ?_
          refine r_st_3 C0 (by rw [hk]; exact vp_in_nI (by omega) (by decide)) dX7_wind_77 ?_
          refine j_iinc C0 (v := (a1 + nI (j62 + 1))) (L' := [(0, .ref (ad 0)), (1, .int (a1)), (2, .int (a2)), (3, .int (a3)), (4, .int (((G 3) (a1).toNatClampNeg))), (5, .int ((a1 + nI (j62 + 1))))]) dX7_wind_78 rfl (k_inc _ j62) (by decide) rfl ?_
          refine j_goto C0 62 dX7_wind_81 (by decide) ?_
          exact K62
        ·
          show J p l e _ s m args below meth c A 6 _ (OV D Y A ad (0 : Int32) (F 1) (F 5) (F 18) (F 19) (F 20) (G 2) (nf (bX7_wind_62 F G a1 a2 a3) ((G 3)) ((a2).toNatClampNeg)) (G 4) (G 6) (G 7) (G 8) (G 9) (G 10) (G 11) (G 12) (G 13) (G 14) (G 15) (G 16) (G 17) (G 21) (G 22) (G 23) (G 24) (G 25)) 0 0 62 [(0, .ref (ad 0)), (1, .int (a1)), (2, .int (a2)), (3, .int (a3)), (4, .int (((G 3) (a1).toNatClampNeg))), (5, .int ((a1 + nI (((a2).toNatClampNeg)))))] []
          refine j_iload C0 dX7_wind_62 rfl ?_
          refine j_iload_n C0 dX7_wind_64 rfl ?_
          refine j_iload_n C0 dX7_wind_65 rfl ?_
          refine j_iadd C0 dX7_wind_66 ?_
          refine j_icmp_ge C0 84 dX7_wind_67 (by decide) (fun _ => ?_) (fun z => absurd (by rw [hN, hk, hk2]; exact Int32.le_refl _) z)
          refine j_iload C0 dX7_wind_84 rfl ?_
          exact j_iretE C0 rfl (by rw [vX7_wind, if_neg q1, if_neg q3, if_neg q5]) dX7_wind_86 (fun H h => by rw [sX7_wind, if_neg q1, if_neg q3, if_neg q5]; exact h)
/-! ## depth(I)I -/
def vX7_depth (F : Nat → Int32) (G : Nat → Nat → Int32) (a1 : Int32) : Int32 := (if (vX7_isIn (a1) ((0 : Int32)) ((3100 : Int32))) = 0 then (0 : Int32) else (vX7_depthOf (hu F 0 (0 : Int32)) G (a1)))
def sX7_depth (F : Nat → Int32) (G : Nat → Nat → Int32) (a1 : Int32) : (Nat → Int32) × (Nat → Nat → Int32) := (if (vX7_isIn (a1) ((0 : Int32)) ((3100 : Int32))) = 0 then ((hu F 0 (1 : Int32)), G) else ((hu F 0 (0 : Int32)), G))
set_option maxRecDepth 100000 in
set_option maxHeartbeats 4000000 in
theorem k_X7_depth {l : Launch} (hl : l.stackTraces = false) {D : va_G} {Y : Nat → ClassId} {A : Nat → Prop} {E : State → Prop} (ad : Nat → Nat) (F : Nat → Int32) (G : Nat → Nat → Int32) (a1 : Int32) (hI : RI F G) : KM l yX7_depth cX7_depth 2 (some .int) D Y A E 1 22 0 0 [.ref (ad 0), .int (a1)] (OR D Y A ad F G) (some (.int (vX7_depth F G a1))) (OR D Y A ad (sX7_depth F G a1).1 (sX7_depth F G a1).2) := by
  refine KM_of RX7 [(0, .ref (ad 0)), (1, .int (a1))] rfl (by decide) hl (Nat.le_of_ble_eq_true rfl) rfl (lok_of rfl rfl) ?_
  intro p e s m args below meth c C0
  obtain ⟨hn, hs, hm, hb, hw, hr⟩ := id hI
  refine j_aload_n C0 dX7_depth_0 rfl ?_
  refine j_iload_n C0 dX7_depth_1 rfl ?_
  refine j_iconst C0 (v := 0) dX7_depth_2 (by decide) ?_
  refine j_sipush C0 (v := 3100) dX7_depth_3 (by decide) ?_
  refine j_callSv C0 (k_X7_isIn hl (a1) ((0 : Int32)) ((3100 : Int32)) ) ms_X7_isIn wm_X7_78 rfl rfl ⟨Nat.le_of_ble_eq_true rfl, Nat.le_of_ble_eq_true rfl⟩ (Nat.le_of_ble_eq_true rfl) ⟨Nat.le_refl _, Nat.le_refl _⟩ dX7_depth_6 ?_
  refine j_if_eq C0 16 dX7_depth_9 (by decide) (fun (q1 : (vX7_isIn (a1) ((0 : Int32)) ((3100 : Int32))) = 0) => ?_) (fun (q1 : ¬ ((vX7_isIn (a1) ((0 : Int32)) ((3100 : Int32))) = 0)) => ?_)
  ·
    refine j_iconst C0 (v := 1) dX7_depth_16 (by decide) ?_
    refine j_callVv C0 (k_X7_holds hl ad F G ((1 : Int32)) ) mv_X7_holds wm_X7_85 (r_recv C0) rfl rfl ⟨Nat.le_of_ble_eq_true rfl, Nat.le_of_ble_eq_true rfl⟩ (Nat.le_of_ble_eq_true rfl) ⟨Nat.le_refl _, Nat.le_refl _⟩ dX7_depth_17 ?_
    refine j_top (0 : Int32) (by unfold vX7_holds; decide +kernel) ?_
    show J p l e _ s m args below meth c A 2 _ (OV D Y A ad (1 : Int32) (F 1) (F 5) (F 18) (F 19) (F 20) (G 2) (G 3) (G 4) (G 6) (G 7) (G 8) (G 9) (G 10) (G 11) (G 12) (G 13) (G 14) (G 15) (G 16) (G 17) (G 21) (G 22) (G 23) (G 24) (G 25)) 0 0 20 [(0, .ref (ad 0)), (1, .int (a1))] [.int ((0 : Int32))]
    refine j_if_eq C0 31 dX7_depth_20 (by decide) (fun _ => ?_) (fun z => absurd (by decide) z)
    refine j_iconst C0 (v := 0) dX7_depth_31 (by decide) ?_
    exact j_iretE C0 rfl (by rw [vX7_depth, if_pos q1]) dX7_depth_32 (fun H h => by rw [sX7_depth, if_pos q1]; exact h)
  ·
    refine j_iconst C0 (v := 0) dX7_depth_12 (by decide) ?_
    refine j_goto C0 17 dX7_depth_13 (by decide) ?_
    refine j_callVv C0 (k_X7_holds hl ad F G ((0 : Int32)) ) mv_X7_holds wm_X7_85 (r_recv C0) rfl rfl ⟨Nat.le_of_ble_eq_true rfl, Nat.le_of_ble_eq_true rfl⟩ (Nat.le_of_ble_eq_true rfl) ⟨Nat.le_refl _, Nat.le_refl _⟩ dX7_depth_17 ?_
    refine j_top (1 : Int32) (by unfold vX7_holds; decide +kernel) ?_
    show J p l e _ s m args below meth c A 2 _ (OV D Y A ad (0 : Int32) (F 1) (F 5) (F 18) (F 19) (F 20) (G 2) (G 3) (G 4) (G 6) (G 7) (G 8) (G 9) (G 10) (G 11) (G 12) (G 13) (G 14) (G 15) (G 16) (G 17) (G 21) (G 22) (G 23) (G 24) (G 25)) 0 0 20 [(0, .ref (ad 0)), (1, .int (a1))] [.int ((1 : Int32))]
    refine j_if_eq C0 31 dX7_depth_20 (by decide) (fun z => absurd z (by decide)) (fun _ => ?_)
    refine j_aload_n C0 dX7_depth_23 rfl ?_
    refine j_iload_n C0 dX7_depth_24 rfl ?_
    refine j_callVv C0 (k_X7_depthOf hl ad (hu F 0 (0 : Int32)) G (a1) (isIn_vp q1 (by decide))) mv_X7_depthOf wm_X7_92 (r_recv C0) rfl rfl ⟨Nat.le_of_ble_eq_true rfl, Nat.le_of_ble_eq_true rfl⟩ (Nat.le_of_ble_eq_true rfl) ⟨Nat.le_refl _, Nat.le_refl _⟩ dX7_depth_25 ?_
    refine j_goto C0 32 dX7_depth_28 (by decide) ?_
    exact j_iretE C0 rfl (by rw [vX7_depth, if_neg q1]) dX7_depth_32 (fun H h => by rw [sX7_depth, if_neg q1]; exact h)
/-! ## berth(II)I -/
def vX7_berth (F : Nat → Int32) (G : Nat → Nat → Int32) (a1 : Int32) (a2 : Int32) : Int32 := (if (vX7_isIn (a1) ((0 : Int32)) ((5 : Int32))) = 0 then (0 : Int32) else (if (vX7_isIn (a2) ((0 : Int32)) ((200 : Int32))) = 0 then (0 : Int32) else (if (vX7_wasUsed F G (a1)) = 0 then ((G 4) (a1).toNatClampNeg) else (0 : Int32))))
def sX7_berth (F : Nat → Int32) (G : Nat → Nat → Int32) (a1 : Int32) (a2 : Int32) : (Nat → Int32) × (Nat → Nat → Int32) := (if (vX7_isIn (a1) ((0 : Int32)) ((5 : Int32))) = 0 then ((hu F 0 (1 : Int32)), G) else (if (vX7_isIn (a2) ((0 : Int32)) ((200 : Int32))) = 0 then ((hu F 0 (2 : Int32)), G) else (if (vX7_wasUsed F G (a1)) = 0 then ((hu F 0 (0 : Int32)), (hu G 4 (upd (G 4) (a1).toNatClampNeg (a2)))) else ((hu F 0 (3 : Int32)), G))))
set_option maxRecDepth 100000 in
set_option maxHeartbeats 4000000 in
theorem k_X7_berth {l : Launch} (hl : l.stackTraces = false) {D : va_G} {Y : Nat → ClassId} {A : Nat → Prop} {E : State → Prop} (ad : Nat → Nat) (F : Nat → Int32) (G : Nat → Nat → Int32) (a1 : Int32) (a2 : Int32) (hI : RI F G) : KM l yX7_berth cX7_berth 4 (some .int) D Y A E 1 23 0 0 [.ref (ad 0), .int (a1), .int (a2)] (OR D Y A ad F G) (some (.int (vX7_berth F G a1 a2))) (OR D Y A ad (sX7_berth F G a1 a2).1 (sX7_berth F G a1 a2).2) := by
  refine KM_of RX7 [(0, .ref (ad 0)), (1, .int (a1)), (2, .int (a2))] rfl (by decide) hl (Nat.le_of_ble_eq_true rfl) rfl (lok_of rfl rfl) ?_
  intro p e s m args below meth c C0
  obtain ⟨hn, hs, hm, hb, hw, hr⟩ := id hI
  refine j_aload_n C0 dX7_berth_0 rfl ?_
  refine j_iload_n C0 dX7_berth_1 rfl ?_
  refine j_iconst C0 (v := 0) dX7_berth_2 (by decide) ?_
  refine j_iconst C0 (v := 5) dX7_berth_3 (by decide) ?_
  refine j_callSv C0 (k_X7_isIn hl (a1) ((0 : Int32)) ((5 : Int32)) ) ms_X7_isIn wm_X7_78 rfl rfl ⟨Nat.le_of_ble_eq_true rfl, Nat.le_of_ble_eq_true rfl⟩ (Nat.le_of_ble_eq_true rfl) ⟨Nat.le_refl _, Nat.le_refl _⟩ dX7_berth_4 ?_
  refine j_if_ne C0 14 dX7_berth_7 (by decide) (fun (q1 : ¬ ((vX7_isIn (a1) ((0 : Int32)) ((5 : Int32))) = 0)) => ?_) (fun (q1 : (vX7_isIn (a1) ((0 : Int32)) ((5 : Int32))) = 0) => ?_)
  ·
    refine j_iload_n C0 dX7_berth_14 rfl ?_
    refine j_iconst C0 (v := 0) dX7_berth_15 (by decide) ?_
    refine j_sipush C0 (v := 200) dX7_berth_16 (by decide) ?_
    refine j_callSv C0 (k_X7_isIn hl (a2) ((0 : Int32)) ((200 : Int32)) ) ms_X7_isIn wm_X7_78 rfl rfl ⟨Nat.le_of_ble_eq_true rfl, Nat.le_of_ble_eq_true rfl⟩ (Nat.le_of_ble_eq_true rfl) ⟨Nat.le_refl _, Nat.le_refl _⟩ dX7_berth_19 ?_
    refine j_if_ne C0 29 dX7_berth_22 (by decide) (fun (q2 : ¬ ((vX7_isIn (a2) ((0 : Int32)) ((200 : Int32))) = 0)) => ?_) (fun (q2 : (vX7_isIn (a2) ((0 : Int32)) ((200 : Int32))) = 0) => ?_)
    ·
      refine j_aload_n C0 dX7_berth_29 rfl ?_
      refine j_iload_n C0 dX7_berth_30 rfl ?_
      refine j_callVv C0 (k_X7_wasUsed hl ad F G (a1) hm hw) mv_X7_wasUsed wm_X7_96 (r_recv C0) rfl rfl ⟨Nat.le_of_ble_eq_true rfl, Nat.le_of_ble_eq_true rfl⟩ (Nat.le_of_ble_eq_true rfl) ⟨Nat.le_refl _, Nat.le_refl _⟩ dX7_berth_31 ?_
      refine j_if_eq C0 41 dX7_berth_34 (by decide) (fun (q3 : (vX7_wasUsed F G (a1)) = 0) => ?_) (fun (q3 : ¬ ((vX7_wasUsed F G (a1)) = 0)) => ?_)
      ·
        refine j_iconst C0 (v := 0) dX7_berth_41 (by decide) ?_
        refine j_callVv C0 (k_X7_holds hl ad F G ((0 : Int32)) ) mv_X7_holds wm_X7_85 (r_recv C0) rfl rfl ⟨Nat.le_of_ble_eq_true rfl, Nat.le_of_ble_eq_true rfl⟩ (Nat.le_of_ble_eq_true rfl) ⟨Nat.le_refl _, Nat.le_refl _⟩ dX7_berth_42 ?_
        refine j_top (1 : Int32) (by unfold vX7_holds; decide +kernel) ?_
        show J p l e _ s m args below meth c A 4 _ (OV D Y A ad (0 : Int32) (F 1) (F 5) (F 18) (F 19) (F 20) (G 2) (G 3) (G 4) (G 6) (G 7) (G 8) (G 9) (G 10) (G 11) (G 12) (G 13) (G 14) (G 15) (G 16) (G 17) (G 21) (G 22) (G 23) (G 24) (G 25)) 0 0 45 [(0, .ref (ad 0)), (1, .int (a1)), (2, .int (a2))] [.int ((1 : Int32))]
        refine j_if_ne C0 50 dX7_berth_45 (by decide) (fun _ => ?_) (fun z => absurd z (by decide))
        refine j_aload_n C0 dX7_berth_50 rfl ?_
        refine r_gf_4 C0 dX7_berth_51 ?_
        refine j_iload_n C0 dX7_berth_54 rfl ?_
        refine r_ld_4 C0 (v := ((G 4) (a1).toNatClampNeg)) (isIn_vp q1 (by decide)) dX7_berth_55 rfl ?_
        refine j_istore_n C0 (L' := [(0, .ref (ad 0)), (1, .int (a1)), (2, .int (a2)), (3, .int (((G 4) (a1).toNatClampNeg)))]) dX7_berth_56 (by decide) rfl ?_
        refine j_aload_n C0 dX7_berth_57 rfl ?_
        refine r_gf_4 C0 dX7_berth_58 ?_
        refine j_iload_n C0 dX7_berth_61 rfl ?_
        refine j_iload_n C0 dX7_berth_62 rfl ?_
        refine r_st_4 C0 (isIn_vp q1 (by decide)) dX7_berth_63 ?_
        refine j_iload_n C0 dX7_berth_64 rfl ?_
        exact j_iretE C0 rfl (by rw [vX7_berth, if_neg q1, if_neg q2, if_pos q3]) dX7_berth_65 (fun H h => by rw [sX7_berth, if_neg q1, if_neg q2, if_pos q3]; exact h)
      ·
        refine j_iconst C0 (v := 3) dX7_berth_37 (by decide) ?_
        refine j_goto C0 42 dX7_berth_38 (by decide) ?_
        refine j_callVv C0 (k_X7_holds hl ad F G ((3 : Int32)) ) mv_X7_holds wm_X7_85 (r_recv C0) rfl rfl ⟨Nat.le_of_ble_eq_true rfl, Nat.le_of_ble_eq_true rfl⟩ (Nat.le_of_ble_eq_true rfl) ⟨Nat.le_refl _, Nat.le_refl _⟩ dX7_berth_42 ?_
        refine j_top (0 : Int32) (by unfold vX7_holds; decide +kernel) ?_
        show J p l e _ s m args below meth c A 4 _ (OV D Y A ad (3 : Int32) (F 1) (F 5) (F 18) (F 19) (F 20) (G 2) (G 3) (G 4) (G 6) (G 7) (G 8) (G 9) (G 10) (G 11) (G 12) (G 13) (G 14) (G 15) (G 16) (G 17) (G 21) (G 22) (G 23) (G 24) (G 25)) 0 0 45 [(0, .ref (ad 0)), (1, .int (a1)), (2, .int (a2))] [.int ((0 : Int32))]
        refine j_if_ne C0 50 dX7_berth_45 (by decide) (fun z => absurd (by decide) z) (fun _ => ?_)
        refine j_iconst C0 (v := 0) dX7_berth_48 (by decide) ?_
        exact j_iretE C0 rfl (by rw [vX7_berth, if_neg q1, if_neg q2, if_neg q3]) dX7_berth_49 (fun H h => by rw [sX7_berth, if_neg q1, if_neg q2, if_neg q3]; exact h)
    ·
      refine j_iconst C0 (v := 2) dX7_berth_25 (by decide) ?_
      refine j_goto C0 42 dX7_berth_26 (by decide) ?_
      refine j_callVv C0 (k_X7_holds hl ad F G ((2 : Int32)) ) mv_X7_holds wm_X7_85 (r_recv C0) rfl rfl ⟨Nat.le_of_ble_eq_true rfl, Nat.le_of_ble_eq_true rfl⟩ (Nat.le_of_ble_eq_true rfl) ⟨Nat.le_refl _, Nat.le_refl _⟩ dX7_berth_42 ?_
      refine j_top (0 : Int32) (by unfold vX7_holds; decide +kernel) ?_
      show J p l e _ s m args below meth c A 4 _ (OV D Y A ad (2 : Int32) (F 1) (F 5) (F 18) (F 19) (F 20) (G 2) (G 3) (G 4) (G 6) (G 7) (G 8) (G 9) (G 10) (G 11) (G 12) (G 13) (G 14) (G 15) (G 16) (G 17) (G 21) (G 22) (G 23) (G 24) (G 25)) 0 0 45 [(0, .ref (ad 0)), (1, .int (a1)), (2, .int (a2))] [.int ((0 : Int32))]
      refine j_if_ne C0 50 dX7_berth_45 (by decide) (fun z => absurd (by decide) z) (fun _ => ?_)
      refine j_iconst C0 (v := 0) dX7_berth_48 (by decide) ?_
      exact j_iretE C0 rfl (by rw [vX7_berth, if_neg q1, if_pos q2]) dX7_berth_49 (fun H h => by rw [sX7_berth, if_neg q1, if_pos q2]; exact h)
  ·
    refine j_iconst C0 (v := 1) dX7_berth_10 (by decide) ?_
    refine j_goto C0 42 dX7_berth_11 (by decide) ?_
    refine j_callVv C0 (k_X7_holds hl ad F G ((1 : Int32)) ) mv_X7_holds wm_X7_85 (r_recv C0) rfl rfl ⟨Nat.le_of_ble_eq_true rfl, Nat.le_of_ble_eq_true rfl⟩ (Nat.le_of_ble_eq_true rfl) ⟨Nat.le_refl _, Nat.le_refl _⟩ dX7_berth_42 ?_
    refine j_top (0 : Int32) (by unfold vX7_holds; decide +kernel) ?_
    show J p l e _ s m args below meth c A 4 _ (OV D Y A ad (1 : Int32) (F 1) (F 5) (F 18) (F 19) (F 20) (G 2) (G 3) (G 4) (G 6) (G 7) (G 8) (G 9) (G 10) (G 11) (G 12) (G 13) (G 14) (G 15) (G 16) (G 17) (G 21) (G 22) (G 23) (G 24) (G 25)) 0 0 45 [(0, .ref (ad 0)), (1, .int (a1)), (2, .int (a2))] [.int ((0 : Int32))]
    refine j_if_ne C0 50 dX7_berth_45 (by decide) (fun z => absurd (by decide) z) (fun _ => ?_)
    refine j_iconst C0 (v := 0) dX7_berth_48 (by decide) ?_
    exact j_iretE C0 rfl (by rw [vX7_berth, if_pos q1]) dX7_berth_49 (fun H h => by rw [sX7_berth, if_pos q1]; exact h)
/-! ## ship(IIII)I -/
def vX7_ship (F : Nat → Int32) (G : Nat → Nat → Int32) (a1 : Int32) (a2 : Int32) (a3 : Int32) (a4 : Int32) : Int32 := (if (vX7_isIn (a1) ((1 : Int32)) ((4 : Int32))) = 0 then (if (vX7_isIn (a4) ((0 : Int32)) ((5 : Int32))) = 0 then (0 : Int32) else (0 : Int32)) else (if (vX7_isIn (a2) ((10 : Int32)) ((150 : Int32))) = 0 then (if (vX7_isIn (a4) ((0 : Int32)) ((5 : Int32))) = 0 then (0 : Int32) else (0 : Int32)) else (if (vX7_isIn (a3) ((0 : Int32)) ((3 : Int32))) = 0 then (if (vX7_isIn (a4) ((0 : Int32)) ((5 : Int32))) = 0 then (0 : Int32) else (0 : Int32)) else (if (vX7_isIn (a4) ((0 : Int32)) ((5 : Int32))) = 0 then (0 : Int32) else (if (F 5) = (30 : Int32) then (0 : Int32) else (((F 5) + (1 : Int32)) - (1 : Int32)))))))
def sX7_ship (F : Nat → Int32) (G : Nat → Nat → Int32) (a1 : Int32) (a2 : Int32) (a3 : Int32) (a4 : Int32) : (Nat → Int32) × (Nat → Nat → Int32) := (if (vX7_isIn (a1) ((1 : Int32)) ((4 : Int32))) = 0 then (if (vX7_isIn (a4) ((0 : Int32)) ((5 : Int32))) = 0 then ((hu F 0 (1 : Int32)), G) else ((hu F 0 (2 : Int32)), G)) else (if (vX7_isIn (a2) ((10 : Int32)) ((150 : Int32))) = 0 then (if (vX7_isIn (a4) ((0 : Int32)) ((5 : Int32))) = 0 then ((hu F 0 (1 : Int32)), G) else ((hu F 0 (2 : Int32)), G)) else (if (vX7_isIn (a3) ((0 : Int32)) ((3 : Int32))) = 0 then (if (vX7_isIn (a4) ((0 : Int32)) ((5 : Int32))) = 0 then ((hu F 0 (1 : Int32)), G) else ((hu F 0 (2 : Int32)), G)) else (if (vX7_isIn (a4) ((0 : Int32)) ((5 : Int32))) = 0 then ((hu F 0 (1 : Int32)), G) else (if (F 5) = (30 : Int32) then ((hu F 0 (3 : Int32)), G) else ((hu (hu F 0 (0 : Int32)) 5 ((F 5) + (1 : Int32))), (hu (hu (hu (hu (hu G 6 (upd (G 6) ((F 5)).toNatClampNeg (a1))) 7 (upd (G 7) ((F 5)).toNatClampNeg (a2))) 8 (upd (G 8) ((F 5)).toNatClampNeg (a3))) 9 (upd (G 9) ((F 5)).toNatClampNeg (a4))) 11 (upd (G 11) ((F 5)).toNatClampNeg ((-1 : Int32))))))))))
set_option maxRecDepth 100000 in
set_option maxHeartbeats 4000000 in
theorem k_X7_ship {l : Launch} (hl : l.stackTraces = false) {D : va_G} {Y : Nat → ClassId} {A : Nat → Prop} {E : State → Prop} (ad : Nat → Nat) (F : Nat → Int32) (G : Nat → Nat → Int32) (a1 : Int32) (a2 : Int32) (a3 : Int32) (a4 : Int32) (hI : RI F G) : KM l yX7_ship cX7_ship 6 (some .int) D Y A E 1 22 0 0 [.ref (ad 0), .int (a1), .int (a2), .int (a3), .int (a4)] (OR D Y A ad F G) (some (.int (vX7_ship F G a1 a2 a3 a4))) (OR D Y A ad (sX7_ship F G a1 a2 a3 a4).1 (sX7_ship F G a1 a2 a3 a4).2) := by
  refine KM_of RX7 [(0, .ref (ad 0)), (1, .int (a1)), (2, .int (a2)), (3, .int (a3)), (4, .int (a4))] rfl (by decide) hl (Nat.le_of_ble_eq_true rfl) rfl (lok_of rfl rfl) ?_
  intro p e s m args below meth c C0
  obtain ⟨hn, hs, hm, hb, hw, hr⟩ := id hI
  refine j_iload_n C0 dX7_ship_0 rfl ?_
  refine j_iconst C0 (v := 1) dX7_ship_1 (by decide) ?_
  refine j_iconst C0 (v := 4) dX7_ship_2 (by decide) ?_
  refine j_callSv C0 (k_X7_isIn hl (a1) ((1 : Int32)) ((4 : Int32)) ) ms_X7_isIn wm_X7_78 rfl rfl ⟨Nat.le_of_ble_eq_true rfl, Nat.le_of_ble_eq_true rfl⟩ (Nat.le_of_ble_eq_true rfl) ⟨Nat.le_refl _, Nat.le_refl _⟩ dX7_ship_3 ?_
  refine j_if_eq C0 34 dX7_ship_6 (by decide) (fun (q1 : (vX7_isIn (a1) ((1 : Int32)) ((4 : Int32))) = 0) => ?_) (fun (q1 : ¬ ((vX7_isIn (a1) ((1 : Int32)) ((4 : Int32))) = 0)) => ?_)
  ·
    refine j_iconst C0 (v := 0) dX7_ship_34 (by decide) ?_
    refine j_istore C0 (L' := [(0, .ref (ad 0)), (1, .int (a1)), (2, .int (a2)), (3, .int (a3)), (4, .int (a4)), (5, .int ((0 : Int32)))]) dX7_ship_35 (by decide) rfl ?_
    refine j_aload_n C0 dX7_ship_37 rfl ?_
    refine j_iload C0 dX7_ship_38 rfl ?_
    refine j_iconst C0 (v := 0) dX7_ship_40 (by decide) ?_
    refine j_iconst C0 (v := 5) dX7_ship_41 (by decide) ?_
    refine j_callSv C0 (k_X7_isIn hl (a4) ((0 : Int32)) ((5 : Int32)) ) ms_X7_isIn wm_X7_78 rfl rfl ⟨Nat.le_of_ble_eq_true rfl, Nat.le_of_ble_eq_true rfl⟩ (Nat.le_of_ble_eq_true rfl) ⟨Nat.le_refl _, Nat.le_refl _⟩ dX7_ship_42 ?_
    refine j_if_ne C0 52 dX7_ship_45 (by decide) (fun (q2 : ¬ ((vX7_isIn (a4) ((0 : Int32)) ((5 : Int32))) = 0)) => ?_) (fun (q2 : (vX7_isIn (a4) ((0 : Int32)) ((5 : Int32))) = 0) => ?_)
    ·
      refine j_iload C0 dX7_ship_52 rfl ?_
      refine j_if_ne C0 61 dX7_ship_54 (by decide) (fun z => absurd (by decide) z) (fun _ => ?_)
      refine j_iconst C0 (v := 2) dX7_ship_57 (by decide) ?_
      refine j_goto C0 75 dX7_ship_58 (by decide) ?_
      refine j_callVv C0 (k_X7_holds hl ad F G ((2 : Int32)) ) mv_X7_holds wm_X7_85 (r_recv C0) rfl rfl ⟨Nat.le_of_ble_eq_true rfl, Nat.le_of_ble_eq_true rfl⟩ (Nat.le_of_ble_eq_true rfl) ⟨Nat.le_refl _, Nat.le_refl _⟩ dX7_ship_75 ?_
      refine j_top (0 : Int32) (by unfold vX7_holds; decide +kernel) ?_
      show J p l e _ s m args below meth c A 6 _ (OV D Y A ad (2 : Int32) (F 1) (F 5) (F 18) (F 19) (F 20) (G 2) (G 3) (G 4) (G 6) (G 7) (G 8) (G 9) (G 10) (G 11) (G 12) (G 13) (G 14) (G 15) (G 16) (G 17) (G 21) (G 22) (G 23) (G 24) (G 25)) 0 0 78 [(0, .ref (ad 0)), (1, .int (a1)), (2, .int (a2)), (3, .int (a3)), (4, .int (a4)), (5, .int ((0 : Int32)))] [.int ((0 : Int32))]
      refine j_if_ne C0 83 dX7_ship_78 (by decide) (fun z => absurd (by decide) z) (fun _ => ?_)
      refine j_iconst C0 (v := 0) dX7_ship_81 (by decide) ?_
      exact j_iretE C0 rfl (by rw [vX7_ship, if_pos q1, if_neg q2]) dX7_ship_82 (fun H h => by rw [sX7_ship, if_pos q1, if_neg q2]; exact h)
    ·
      refine j_iconst C0 (v := 1) dX7_ship_48 (by decide) ?_
      refine j_goto C0 75 dX7_ship_49 (by decide) ?_
      refine j_callVv C0 (k_X7_holds hl ad F G ((1 : Int32)) ) mv_X7_holds wm_X7_85 (r_recv C0) rfl rfl ⟨Nat.le_of_ble_eq_true rfl, Nat.le_of_ble_eq_true rfl⟩ (Nat.le_of_ble_eq_true rfl) ⟨Nat.le_refl _, Nat.le_refl _⟩ dX7_ship_75 ?_
      refine j_top (0 : Int32) (by unfold vX7_holds; decide +kernel) ?_
      show J p l e _ s m args below meth c A 6 _ (OV D Y A ad (1 : Int32) (F 1) (F 5) (F 18) (F 19) (F 20) (G 2) (G 3) (G 4) (G 6) (G 7) (G 8) (G 9) (G 10) (G 11) (G 12) (G 13) (G 14) (G 15) (G 16) (G 17) (G 21) (G 22) (G 23) (G 24) (G 25)) 0 0 78 [(0, .ref (ad 0)), (1, .int (a1)), (2, .int (a2)), (3, .int (a3)), (4, .int (a4)), (5, .int ((0 : Int32)))] [.int ((0 : Int32))]
      refine j_if_ne C0 83 dX7_ship_78 (by decide) (fun z => absurd (by decide) z) (fun _ => ?_)
      refine j_iconst C0 (v := 0) dX7_ship_81 (by decide) ?_
      exact j_iretE C0 rfl (by rw [vX7_ship, if_pos q1, if_pos q2]) dX7_ship_82 (fun H h => by rw [sX7_ship, if_pos q1, if_pos q2]; exact h)
  ·
    refine j_iload_n C0 dX7_ship_9 rfl ?_
    refine j_bipush C0 (v := 10) dX7_ship_10 (by decide) ?_
    refine j_sipush C0 (v := 150) dX7_ship_12 (by decide) ?_
    refine j_callSv C0 (k_X7_isIn hl (a2) ((10 : Int32)) ((150 : Int32)) ) ms_X7_isIn wm_X7_78 rfl rfl ⟨Nat.le_of_ble_eq_true rfl, Nat.le_of_ble_eq_true rfl⟩ (Nat.le_of_ble_eq_true rfl) ⟨Nat.le_refl _, Nat.le_refl _⟩ dX7_ship_15 ?_
    refine j_if_eq C0 34 dX7_ship_18 (by decide) (fun (q6 : (vX7_isIn (a2) ((10 : Int32)) ((150 : Int32))) = 0) => ?_) (fun (q6 : ¬ ((vX7_isIn (a2) ((10 : Int32)) ((150 : Int32))) = 0)) => ?_)
    ·
      refine j_iconst C0 (v := 0) dX7_ship_34 (by decide) ?_
      refine j_istore C0 (L' := [(0, .ref (ad 0)), (1, .int (a1)), (2, .int (a2)), (3, .int (a3)), (4, .int (a4)), (5, .int ((0 : Int32)))]) dX7_ship_35 (by decide) rfl ?_
      refine j_aload_n C0 dX7_ship_37 rfl ?_
      refine j_iload C0 dX7_ship_38 rfl ?_
      refine j_iconst C0 (v := 0) dX7_ship_40 (by decide) ?_
      refine j_iconst C0 (v := 5) dX7_ship_41 (by decide) ?_
      refine j_callSv C0 (k_X7_isIn hl (a4) ((0 : Int32)) ((5 : Int32)) ) ms_X7_isIn wm_X7_78 rfl rfl ⟨Nat.le_of_ble_eq_true rfl, Nat.le_of_ble_eq_true rfl⟩ (Nat.le_of_ble_eq_true rfl) ⟨Nat.le_refl _, Nat.le_refl _⟩ dX7_ship_42 ?_
      refine j_if_ne C0 52 dX7_ship_45 (by decide) (fun (q7 : ¬ ((vX7_isIn (a4) ((0 : Int32)) ((5 : Int32))) = 0)) => ?_) (fun (q7 : (vX7_isIn (a4) ((0 : Int32)) ((5 : Int32))) = 0) => ?_)
      ·
        refine j_iload C0 dX7_ship_52 rfl ?_
        refine j_if_ne C0 61 dX7_ship_54 (by decide) (fun z => absurd (by decide) z) (fun _ => ?_)
        refine j_iconst C0 (v := 2) dX7_ship_57 (by decide) ?_
        refine j_goto C0 75 dX7_ship_58 (by decide) ?_
        refine j_callVv C0 (k_X7_holds hl ad F G ((2 : Int32)) ) mv_X7_holds wm_X7_85 (r_recv C0) rfl rfl ⟨Nat.le_of_ble_eq_true rfl, Nat.le_of_ble_eq_true rfl⟩ (Nat.le_of_ble_eq_true rfl) ⟨Nat.le_refl _, Nat.le_refl _⟩ dX7_ship_75 ?_
        refine j_top (0 : Int32) (by unfold vX7_holds; decide +kernel) ?_
        show J p l e _ s m args below meth c A 6 _ (OV D Y A ad (2 : Int32) (F 1) (F 5) (F 18) (F 19) (F 20) (G 2) (G 3) (G 4) (G 6) (G 7) (G 8) (G 9) (G 10) (G 11) (G 12) (G 13) (G 14) (G 15) (G 16) (G 17) (G 21) (G 22) (G 23) (G 24) (G 25)) 0 0 78 [(0, .ref (ad 0)), (1, .int (a1)), (2, .int (a2)), (3, .int (a3)), (4, .int (a4)), (5, .int ((0 : Int32)))] [.int ((0 : Int32))]
        refine j_if_ne C0 83 dX7_ship_78 (by decide) (fun z => absurd (by decide) z) (fun _ => ?_)
        refine j_iconst C0 (v := 0) dX7_ship_81 (by decide) ?_
        exact j_iretE C0 rfl (by rw [vX7_ship, if_neg q1, if_pos q6, if_neg q7]) dX7_ship_82 (fun H h => by rw [sX7_ship, if_neg q1, if_pos q6, if_neg q7]; exact h)
      ·
        refine j_iconst C0 (v := 1) dX7_ship_48 (by decide) ?_
        refine j_goto C0 75 dX7_ship_49 (by decide) ?_
        refine j_callVv C0 (k_X7_holds hl ad F G ((1 : Int32)) ) mv_X7_holds wm_X7_85 (r_recv C0) rfl rfl ⟨Nat.le_of_ble_eq_true rfl, Nat.le_of_ble_eq_true rfl⟩ (Nat.le_of_ble_eq_true rfl) ⟨Nat.le_refl _, Nat.le_refl _⟩ dX7_ship_75 ?_
        refine j_top (0 : Int32) (by unfold vX7_holds; decide +kernel) ?_
        show J p l e _ s m args below meth c A 6 _ (OV D Y A ad (1 : Int32) (F 1) (F 5) (F 18) (F 19) (F 20) (G 2) (G 3) (G 4) (G 6) (G 7) (G 8) (G 9) (G 10) (G 11) (G 12) (G 13) (G 14) (G 15) (G 16) (G 17) (G 21) (G 22) (G 23) (G 24) (G 25)) 0 0 78 [(0, .ref (ad 0)), (1, .int (a1)), (2, .int (a2)), (3, .int (a3)), (4, .int (a4)), (5, .int ((0 : Int32)))] [.int ((0 : Int32))]
        refine j_if_ne C0 83 dX7_ship_78 (by decide) (fun z => absurd (by decide) z) (fun _ => ?_)
        refine j_iconst C0 (v := 0) dX7_ship_81 (by decide) ?_
        exact j_iretE C0 rfl (by rw [vX7_ship, if_neg q1, if_pos q6, if_pos q7]) dX7_ship_82 (fun H h => by rw [sX7_ship, if_neg q1, if_pos q6, if_pos q7]; exact h)
    ·
      refine j_iload_n C0 dX7_ship_21 rfl ?_
      refine j_iconst C0 (v := 0) dX7_ship_22 (by decide) ?_
      refine j_iconst C0 (v := 3) dX7_ship_23 (by decide) ?_
      refine j_callSv C0 (k_X7_isIn hl (a3) ((0 : Int32)) ((3 : Int32)) ) ms_X7_isIn wm_X7_78 rfl rfl ⟨Nat.le_of_ble_eq_true rfl, Nat.le_of_ble_eq_true rfl⟩ (Nat.le_of_ble_eq_true rfl) ⟨Nat.le_refl _, Nat.le_refl _⟩ dX7_ship_24 ?_
      refine j_if_eq C0 34 dX7_ship_27 (by decide) (fun (q11 : (vX7_isIn (a3) ((0 : Int32)) ((3 : Int32))) = 0) => ?_) (fun (q11 : ¬ ((vX7_isIn (a3) ((0 : Int32)) ((3 : Int32))) = 0)) => ?_)
      ·
        refine j_iconst C0 (v := 0) dX7_ship_34 (by decide) ?_
        refine j_istore C0 (L' := [(0, .ref (ad 0)), (1, .int (a1)), (2, .int (a2)), (3, .int (a3)), (4, .int (a4)), (5, .int ((0 : Int32)))]) dX7_ship_35 (by decide) rfl ?_
        refine j_aload_n C0 dX7_ship_37 rfl ?_
        refine j_iload C0 dX7_ship_38 rfl ?_
        refine j_iconst C0 (v := 0) dX7_ship_40 (by decide) ?_
        refine j_iconst C0 (v := 5) dX7_ship_41 (by decide) ?_
        refine j_callSv C0 (k_X7_isIn hl (a4) ((0 : Int32)) ((5 : Int32)) ) ms_X7_isIn wm_X7_78 rfl rfl ⟨Nat.le_of_ble_eq_true rfl, Nat.le_of_ble_eq_true rfl⟩ (Nat.le_of_ble_eq_true rfl) ⟨Nat.le_refl _, Nat.le_refl _⟩ dX7_ship_42 ?_
        refine j_if_ne C0 52 dX7_ship_45 (by decide) (fun (q12 : ¬ ((vX7_isIn (a4) ((0 : Int32)) ((5 : Int32))) = 0)) => ?_) (fun (q12 : (vX7_isIn (a4) ((0 : Int32)) ((5 : Int32))) = 0) => ?_)
        ·
          refine j_iload C0 dX7_ship_52 rfl ?_
          refine j_if_ne C0 61 dX7_ship_54 (by decide) (fun z => absurd (by decide) z) (fun _ => ?_)
          refine j_iconst C0 (v := 2) dX7_ship_57 (by decide) ?_
          refine j_goto C0 75 dX7_ship_58 (by decide) ?_
          refine j_callVv C0 (k_X7_holds hl ad F G ((2 : Int32)) ) mv_X7_holds wm_X7_85 (r_recv C0) rfl rfl ⟨Nat.le_of_ble_eq_true rfl, Nat.le_of_ble_eq_true rfl⟩ (Nat.le_of_ble_eq_true rfl) ⟨Nat.le_refl _, Nat.le_refl _⟩ dX7_ship_75 ?_
          refine j_top (0 : Int32) (by unfold vX7_holds; decide +kernel) ?_
          show J p l e _ s m args below meth c A 6 _ (OV D Y A ad (2 : Int32) (F 1) (F 5) (F 18) (F 19) (F 20) (G 2) (G 3) (G 4) (G 6) (G 7) (G 8) (G 9) (G 10) (G 11) (G 12) (G 13) (G 14) (G 15) (G 16) (G 17) (G 21) (G 22) (G 23) (G 24) (G 25)) 0 0 78 [(0, .ref (ad 0)), (1, .int (a1)), (2, .int (a2)), (3, .int (a3)), (4, .int (a4)), (5, .int ((0 : Int32)))] [.int ((0 : Int32))]
          refine j_if_ne C0 83 dX7_ship_78 (by decide) (fun z => absurd (by decide) z) (fun _ => ?_)
          refine j_iconst C0 (v := 0) dX7_ship_81 (by decide) ?_
          exact j_iretE C0 rfl (by rw [vX7_ship, if_neg q1, if_neg q6, if_pos q11, if_neg q12]) dX7_ship_82 (fun H h => by rw [sX7_ship, if_neg q1, if_neg q6, if_pos q11, if_neg q12]; exact h)
        ·
          refine j_iconst C0 (v := 1) dX7_ship_48 (by decide) ?_
          refine j_goto C0 75 dX7_ship_49 (by decide) ?_
          refine j_callVv C0 (k_X7_holds hl ad F G ((1 : Int32)) ) mv_X7_holds wm_X7_85 (r_recv C0) rfl rfl ⟨Nat.le_of_ble_eq_true rfl, Nat.le_of_ble_eq_true rfl⟩ (Nat.le_of_ble_eq_true rfl) ⟨Nat.le_refl _, Nat.le_refl _⟩ dX7_ship_75 ?_
          refine j_top (0 : Int32) (by unfold vX7_holds; decide +kernel) ?_
          show J p l e _ s m args below meth c A 6 _ (OV D Y A ad (1 : Int32) (F 1) (F 5) (F 18) (F 19) (F 20) (G 2) (G 3) (G 4) (G 6) (G 7) (G 8) (G 9) (G 10) (G 11) (G 12) (G 13) (G 14) (G 15) (G 16) (G 17) (G 21) (G 22) (G 23) (G 24) (G 25)) 0 0 78 [(0, .ref (ad 0)), (1, .int (a1)), (2, .int (a2)), (3, .int (a3)), (4, .int (a4)), (5, .int ((0 : Int32)))] [.int ((0 : Int32))]
          refine j_if_ne C0 83 dX7_ship_78 (by decide) (fun z => absurd (by decide) z) (fun _ => ?_)
          refine j_iconst C0 (v := 0) dX7_ship_81 (by decide) ?_
          exact j_iretE C0 rfl (by rw [vX7_ship, if_neg q1, if_neg q6, if_pos q11, if_pos q12]) dX7_ship_82 (fun H h => by rw [sX7_ship, if_neg q1, if_neg q6, if_pos q11, if_pos q12]; exact h)
      ·
        refine j_iconst C0 (v := 1) dX7_ship_30 (by decide) ?_
        refine j_goto C0 35 dX7_ship_31 (by decide) ?_
        refine j_istore C0 (L' := [(0, .ref (ad 0)), (1, .int (a1)), (2, .int (a2)), (3, .int (a3)), (4, .int (a4)), (5, .int ((1 : Int32)))]) dX7_ship_35 (by decide) rfl ?_
        refine j_aload_n C0 dX7_ship_37 rfl ?_
        refine j_iload C0 dX7_ship_38 rfl ?_
        refine j_iconst C0 (v := 0) dX7_ship_40 (by decide) ?_
        refine j_iconst C0 (v := 5) dX7_ship_41 (by decide) ?_
        refine j_callSv C0 (k_X7_isIn hl (a4) ((0 : Int32)) ((5 : Int32)) ) ms_X7_isIn wm_X7_78 rfl rfl ⟨Nat.le_of_ble_eq_true rfl, Nat.le_of_ble_eq_true rfl⟩ (Nat.le_of_ble_eq_true rfl) ⟨Nat.le_refl _, Nat.le_refl _⟩ dX7_ship_42 ?_
        refine j_if_ne C0 52 dX7_ship_45 (by decide) (fun (q16 : ¬ ((vX7_isIn (a4) ((0 : Int32)) ((5 : Int32))) = 0)) => ?_) (fun (q16 : (vX7_isIn (a4) ((0 : Int32)) ((5 : Int32))) = 0) => ?_)
        ·
          refine j_iload C0 dX7_ship_52 rfl ?_
          refine j_if_ne C0 61 dX7_ship_54 (by decide) (fun _ => ?_) (fun z => absurd z (by decide))
          refine j_aload_n C0 dX7_ship_61 rfl ?_
          refine r_gf_5 C0 (v := (F 5)) dX7_ship_62 rfl ?_
          refine j_bipush C0 (v := 30) dX7_ship_65 (by decide) ?_
          refine j_icmp_ne C0 74 dX7_ship_67 (by decide) (fun (q18 : ¬ ((F 5) = (30 : Int32))) => ?_) (fun (q18 : (F 5) = (30 : Int32)) => ?_)
          ·
            refine j_iconst C0 (v := 0) dX7_ship_74 (by decide) ?_
            refine j_callVv C0 (k_X7_holds hl ad F G ((0 : Int32)) ) mv_X7_holds wm_X7_85 (r_recv C0) rfl rfl ⟨Nat.le_of_ble_eq_true rfl, Nat.le_of_ble_eq_true rfl⟩ (Nat.le_of_ble_eq_true rfl) ⟨Nat.le_refl _, Nat.le_refl _⟩ dX7_ship_75 ?_
            refine j_top (1 : Int32) (by unfold vX7_holds; decide +kernel) ?_
            show J p l e _ s m args below meth c A 6 _ (OV D Y A ad (0 : Int32) (F 1) (F 5) (F 18) (F 19) (F 20) (G 2) (G 3) (G 4) (G 6) (G 7) (G 8) (G 9) (G 10) (G 11) (G 12) (G 13) (G 14) (G 15) (G 16) (G 17) (G 21) (G 22) (G 23) (G 24) (G 25)) 0 0 78 [(0, .ref (ad 0)), (1, .int (a1)), (2, .int (a2)), (3, .int (a3)), (4, .int (a4)), (5, .int ((1 : Int32)))] [.int ((1 : Int32))]
            refine j_if_ne C0 83 dX7_ship_78 (by decide) (fun _ => ?_) (fun z => absurd z (by decide))
            refine j_aload_n C0 dX7_ship_83 rfl ?_
            refine r_gf_6 C0 dX7_ship_84 ?_
            refine j_aload_n C0 dX7_ship_87 rfl ?_
            refine r_gf_5 C0 (v := (F 5)) dX7_ship_88 rfl ?_
            refine j_iload_n C0 dX7_ship_91 rfl ?_
            refine r_st_6 C0 (shp_in hs q18) dX7_ship_92 ?_
            refine j_aload_n C0 dX7_ship_93 rfl ?_
            refine r_gf_7 C0 dX7_ship_94 ?_
            refine j_aload_n C0 dX7_ship_97 rfl ?_
            refine r_gf_5 C0 (v := (F 5)) dX7_ship_98 rfl ?_
            refine j_iload_n C0 dX7_ship_101 rfl ?_
            refine r_st_7 C0 (shp_in hs q18) dX7_ship_102 ?_
            refine j_aload_n C0 dX7_ship_103 rfl ?_
            refine r_gf_8 C0 dX7_ship_104 ?_
            refine j_aload_n C0 dX7_ship_107 rfl ?_
            refine r_gf_5 C0 (v := (F 5)) dX7_ship_108 rfl ?_
            refine j_iload_n C0 dX7_ship_111 rfl ?_
            refine r_st_8 C0 (shp_in hs q18) dX7_ship_112 ?_
            refine j_aload_n C0 dX7_ship_113 rfl ?_
            refine r_gf_9 C0 dX7_ship_114 ?_
            refine j_aload_n C0 dX7_ship_117 rfl ?_
            refine r_gf_5 C0 (v := (F 5)) dX7_ship_118 rfl ?_
            refine j_iload C0 dX7_ship_121 rfl ?_
            refine r_st_9 C0 (shp_in hs q18) dX7_ship_123 ?_
            refine j_aload_n C0 dX7_ship_124 rfl ?_
            refine r_gf_11 C0 dX7_ship_125 ?_
            refine j_aload_n C0 dX7_ship_128 rfl ?_
            refine r_gf_5 C0 (v := (F 5)) dX7_ship_129 rfl ?_
            refine j_iconst C0 (v := -1) dX7_ship_132 (by decide) ?_
            refine r_st_11 C0 (shp_in hs q18) dX7_ship_133 ?_
            refine j_aload_n C0 dX7_ship_134 rfl ?_
            refine j_dup C0 dX7_ship_135 rfl ?_
            refine r_gf_5 C0 (v := (F 5)) dX7_ship_136 rfl ?_
            refine j_iconst C0 (v := 1) dX7_ship_139 (by decide) ?_
            refine j_iadd C0 dX7_ship_140 ?_
            refine r_pf_5 C0 dX7_ship_141 ?_
            refine j_aload_n C0 dX7_ship_144 rfl ?_
            refine r_gf_5 C0 (v := ((F 5) + (1 : Int32))) dX7_ship_145 rfl ?_
            refine j_iconst C0 (v := 1) dX7_ship_148 (by decide) ?_
            refine j_isub C0 dX7_ship_149 ?_
            exact j_iretE C0 rfl (by rw [vX7_ship, if_neg q1, if_neg q6, if_neg q11, if_neg q16, if_neg q18]) dX7_ship_150 (fun H h => by rw [sX7_ship, if_neg q1, if_neg q6, if_neg q11, if_neg q16, if_neg q18]; exact h)
          ·
            refine j_iconst C0 (v := 3) dX7_ship_70 (by decide) ?_
            refine j_goto C0 75 dX7_ship_71 (by decide) ?_
            refine j_callVv C0 (k_X7_holds hl ad F G ((3 : Int32)) ) mv_X7_holds wm_X7_85 (r_recv C0) rfl rfl ⟨Nat.le_of_ble_eq_true rfl, Nat.le_of_ble_eq_true rfl⟩ (Nat.le_of_ble_eq_true rfl) ⟨Nat.le_refl _, Nat.le_refl _⟩ dX7_ship_75 ?_
            refine j_top (0 : Int32) (by unfold vX7_holds; decide +kernel) ?_
            show J p l e _ s m args below meth c A 6 _ (OV D Y A ad (3 : Int32) (F 1) (F 5) (F 18) (F 19) (F 20) (G 2) (G 3) (G 4) (G 6) (G 7) (G 8) (G 9) (G 10) (G 11) (G 12) (G 13) (G 14) (G 15) (G 16) (G 17) (G 21) (G 22) (G 23) (G 24) (G 25)) 0 0 78 [(0, .ref (ad 0)), (1, .int (a1)), (2, .int (a2)), (3, .int (a3)), (4, .int (a4)), (5, .int ((1 : Int32)))] [.int ((0 : Int32))]
            refine j_if_ne C0 83 dX7_ship_78 (by decide) (fun z => absurd (by decide) z) (fun _ => ?_)
            refine j_iconst C0 (v := 0) dX7_ship_81 (by decide) ?_
            exact j_iretE C0 rfl (by rw [vX7_ship, if_neg q1, if_neg q6, if_neg q11, if_neg q16, if_pos q18]) dX7_ship_82 (fun H h => by rw [sX7_ship, if_neg q1, if_neg q6, if_neg q11, if_neg q16, if_pos q18]; exact h)
        ·
          refine j_iconst C0 (v := 1) dX7_ship_48 (by decide) ?_
          refine j_goto C0 75 dX7_ship_49 (by decide) ?_
          refine j_callVv C0 (k_X7_holds hl ad F G ((1 : Int32)) ) mv_X7_holds wm_X7_85 (r_recv C0) rfl rfl ⟨Nat.le_of_ble_eq_true rfl, Nat.le_of_ble_eq_true rfl⟩ (Nat.le_of_ble_eq_true rfl) ⟨Nat.le_refl _, Nat.le_refl _⟩ dX7_ship_75 ?_
          refine j_top (0 : Int32) (by unfold vX7_holds; decide +kernel) ?_
          show J p l e _ s m args below meth c A 6 _ (OV D Y A ad (1 : Int32) (F 1) (F 5) (F 18) (F 19) (F 20) (G 2) (G 3) (G 4) (G 6) (G 7) (G 8) (G 9) (G 10) (G 11) (G 12) (G 13) (G 14) (G 15) (G 16) (G 17) (G 21) (G 22) (G 23) (G 24) (G 25)) 0 0 78 [(0, .ref (ad 0)), (1, .int (a1)), (2, .int (a2)), (3, .int (a3)), (4, .int (a4)), (5, .int ((1 : Int32)))] [.int ((0 : Int32))]
          refine j_if_ne C0 83 dX7_ship_78 (by decide) (fun z => absurd (by decide) z) (fun _ => ?_)
          refine j_iconst C0 (v := 0) dX7_ship_81 (by decide) ?_
          exact j_iretE C0 rfl (by rw [vX7_ship, if_neg q1, if_neg q6, if_neg q11, if_pos q16]) dX7_ship_82 (fun H h => by rw [sX7_ship, if_neg q1, if_neg q6, if_neg q11, if_pos q16]; exact h)
/-! ## order(II)I -/
def vX7_order (F : Nat → Int32) (G : Nat → Nat → Int32) (a1 : Int32) (a2 : Int32) : Int32 := (if (vX7_isShip F G (a1)) = 0 then (0 : Int32) else (if ((G 10) (a1).toNatClampNeg) = 0 then (if ((G 11) (a1).toNatClampNeg) = (-1 : Int32) then (if (vX7_isIn (a2) (((F 1) + (1 : Int32))) ((3000 : Int32))) = 0 then (0 : Int32) else (vX7_ordered (hu F 0 (0 : Int32)) (hu G 11 (upd (G 11) (a1).toNatClampNeg (a2))))) else (if (vX7_isIn (a2) (((F 1) + (1 : Int32))) ((3000 : Int32))) = 0 then (0 : Int32) else (0 : Int32))) else (if ((G 10) (a1).toNatClampNeg) = (2 : Int32) then (if ((G 11) (a1).toNatClampNeg) = (-1 : Int32) then (if (vX7_isIn (a2) (((F 1) + (1 : Int32))) ((3000 : Int32))) = 0 then (0 : Int32) else (vX7_ordered (hu F 0 (0 : Int32)) (hu G 11 (upd (G 11) (a1).toNatClampNeg (a2))))) else (if (vX7_isIn (a2) (((F 1) + (1 : Int32))) ((3000 : Int32))) = 0 then (0 : Int32) else (0 : Int32))) else (if (vX7_isIn (a2) (((F 1) + (1 : Int32))) ((3000 : Int32))) = 0 then (0 : Int32) else (0 : Int32)))))
def sX7_order (F : Nat → Int32) (G : Nat → Nat → Int32) (a1 : Int32) (a2 : Int32) : (Nat → Int32) × (Nat → Nat → Int32) := (if (vX7_isShip F G (a1)) = 0 then ((hu F 0 (1 : Int32)), G) else (if ((G 10) (a1).toNatClampNeg) = 0 then (if ((G 11) (a1).toNatClampNeg) = (-1 : Int32) then (if (vX7_isIn (a2) (((F 1) + (1 : Int32))) ((3000 : Int32))) = 0 then ((hu F 0 (2 : Int32)), G) else ((hu F 0 (0 : Int32)), (hu G 11 (upd (G 11) (a1).toNatClampNeg (a2))))) else (if (vX7_isIn (a2) (((F 1) + (1 : Int32))) ((3000 : Int32))) = 0 then ((hu F 0 (2 : Int32)), G) else ((hu F 0 (3 : Int32)), G))) else (if ((G 10) (a1).toNatClampNeg) = (2 : Int32) then (if ((G 11) (a1).toNatClampNeg) = (-1 : Int32) then (if (vX7_isIn (a2) (((F 1) + (1 : Int32))) ((3000 : Int32))) = 0 then ((hu F 0 (2 : Int32)), G) else ((hu F 0 (0 : Int32)), (hu G 11 (upd (G 11) (a1).toNatClampNeg (a2))))) else (if (vX7_isIn (a2) (((F 1) + (1 : Int32))) ((3000 : Int32))) = 0 then ((hu F 0 (2 : Int32)), G) else ((hu F 0 (3 : Int32)), G))) else (if (vX7_isIn (a2) (((F 1) + (1 : Int32))) ((3000 : Int32))) = 0 then ((hu F 0 (2 : Int32)), G) else ((hu F 0 (3 : Int32)), G)))))
set_option maxRecDepth 100000 in
set_option maxHeartbeats 4000000 in
theorem k_X7_order {l : Launch} (hl : l.stackTraces = false) {D : va_G} {Y : Nat → ClassId} {A : Nat → Prop} {E : State → Prop} (ad : Nat → Nat) (F : Nat → Int32) (G : Nat → Nat → Int32) (a1 : Int32) (a2 : Int32) (hI : RI F G) : KM l yX7_order cX7_order 5 (some .int) D Y A E 2 43 0 0 [.ref (ad 0), .int (a1), .int (a2)] (OR D Y A ad F G) (some (.int (vX7_order F G a1 a2))) (OR D Y A ad (sX7_order F G a1 a2).1 (sX7_order F G a1 a2).2) := by
  refine KM_of RX7 [(0, .ref (ad 0)), (1, .int (a1)), (2, .int (a2))] rfl (by decide) hl (Nat.le_of_ble_eq_true rfl) rfl (lok_of rfl rfl) ?_
  intro p e s m args below meth c C0
  obtain ⟨hn, hs, hm, hb, hw, hr⟩ := id hI
  refine j_aload_n C0 dX7_order_0 rfl ?_
  refine j_iload_n C0 dX7_order_1 rfl ?_
  refine j_callVv C0 (k_X7_isShip hl ad F G (a1) ) mv_X7_isShip wm_X7_99 (r_recv C0) rfl rfl ⟨Nat.le_of_ble_eq_true rfl, Nat.le_of_ble_eq_true rfl⟩ (Nat.le_of_ble_eq_true rfl) ⟨Nat.le_refl _, Nat.le_refl _⟩ dX7_order_2 ?_
  refine j_istore_n C0 (L' := [(0, .ref (ad 0)), (1, .int (a1)), (2, .int (a2)), (3, .int ((vX7_isShip F G (a1))))]) dX7_order_5 (by decide) rfl ?_
  refine j_iload_n C0 dX7_order_6 rfl ?_
  refine j_if_eq C0 43 dX7_order_7 (by decide) (fun (q1 : (vX7_isShip F G (a1)) = 0) => ?_) (fun (q1 : ¬ ((vX7_isShip F G (a1)) = 0)) => ?_)
  ·
    refine j_iconst C0 (v := 0) dX7_order_43 (by decide) ?_
    refine j_istore C0 (L' := [(0, .ref (ad 0)), (1, .int (a1)), (2, .int (a2)), (3, .int ((vX7_isShip F G (a1)))), (4, .int ((0 : Int32)))]) dX7_order_44 (by decide) rfl ?_
    refine j_aload_n C0 dX7_order_46 rfl ?_
    refine j_iload_n C0 dX7_order_47 rfl ?_
    refine j_if_ne C0 55 dX7_order_48 (by decide) (fun z => absurd q1 z) (fun _ => ?_)
    refine j_iconst C0 (v := 1) dX7_order_51 (by decide) ?_
    refine j_goto C0 85 dX7_order_52 (by decide) ?_
    refine j_callVv C0 (k_X7_holds hl ad F G ((1 : Int32)) ) mv_X7_holds wm_X7_85 (r_recv C0) rfl rfl ⟨Nat.le_of_ble_eq_true rfl, Nat.le_of_ble_eq_true rfl⟩ (Nat.le_of_ble_eq_true rfl) ⟨Nat.le_refl _, Nat.le_refl _⟩ dX7_order_85 ?_
    refine j_top (0 : Int32) (by unfold vX7_holds; decide +kernel) ?_
    show J p l e _ s m args below meth c A 5 _ (OV D Y A ad (1 : Int32) (F 1) (F 5) (F 18) (F 19) (F 20) (G 2) (G 3) (G 4) (G 6) (G 7) (G 8) (G 9) (G 10) (G 11) (G 12) (G 13) (G 14) (G 15) (G 16) (G 17) (G 21) (G 22) (G 23) (G 24) (G 25)) 0 0 88 [(0, .ref (ad 0)), (1, .int (a1)), (2, .int (a2)), (3, .int ((vX7_isShip F G (a1)))), (4, .int ((0 : Int32)))] [.int ((0 : Int32))]
    refine j_if_ne C0 93 dX7_order_88 (by decide) (fun z => absurd (by decide) z) (fun _ => ?_)
    refine j_iconst C0 (v := 0) dX7_order_91 (by decide) ?_
    exact j_iretE C0 rfl (by rw [vX7_order, if_pos q1]) dX7_order_92 (fun H h => by rw [sX7_order, if_pos q1]; exact h)
  ·
    refine j_aload_n C0 dX7_order_10 rfl ?_
    refine r_gf_10 C0 dX7_order_11 ?_
    refine j_iload_n C0 dX7_order_14 rfl ?_
    refine r_ld_10 C0 (v := ((G 10) (a1).toNatClampNeg)) (isShip_vp hs q1) dX7_order_15 rfl ?_
    refine j_if_eq C0 29 dX7_order_16 (by decide) (fun (q4 : ((G 10) (a1).toNatClampNeg) = 0) => ?_) (fun (q4 : ¬ (((G 10) (a1).toNatClampNeg) = 0)) => ?_)
    ·
      refine j_aload_n C0 dX7_order_29 rfl ?_
      refine r_gf_11 C0 dX7_order_30 ?_
      refine j_iload_n C0 dX7_order_33 rfl ?_
      refine r_ld_11 C0 (v := ((G 11) (a1).toNatClampNeg)) (isShip_vp hs q1) dX7_order_34 rfl ?_
      refine j_iconst C0 (v := -1) dX7_order_35 (by decide) ?_
      refine j_icmp_ne C0 43 dX7_order_36 (by decide) (fun (q5 : ¬ (((G 11) (a1).toNatClampNeg) = (-1 : Int32))) => ?_) (fun (q5 : ((G 11) (a1).toNatClampNeg) = (-1 : Int32)) => ?_)
      ·
        refine j_iconst C0 (v := 0) dX7_order_43 (by decide) ?_
        refine j_istore C0 (L' := [(0, .ref (ad 0)), (1, .int (a1)), (2, .int (a2)), (3, .int ((vX7_isShip F G (a1)))), (4, .int ((0 : Int32)))]) dX7_order_44 (by decide) rfl ?_
        refine j_aload_n C0 dX7_order_46 rfl ?_
        refine j_iload_n C0 dX7_order_47 rfl ?_
        refine j_if_ne C0 55 dX7_order_48 (by decide) (fun _ => ?_) (fun z => absurd z q1)
        refine j_iload_n C0 dX7_order_55 rfl ?_
        refine j_aload_n C0 dX7_order_56 rfl ?_
        refine r_gf_1 C0 (v := (F 1)) dX7_order_57 rfl ?_
        refine j_iconst C0 (v := 1) dX7_order_60 (by decide) ?_
        refine j_iadd C0 dX7_order_61 ?_
        refine j_sipush C0 (v := 3000) dX7_order_62 (by decide) ?_
        refine j_callSv C0 (k_X7_isIn hl (a2) (((F 1) + (1 : Int32))) ((3000 : Int32)) ) ms_X7_isIn wm_X7_78 rfl rfl ⟨Nat.le_of_ble_eq_true rfl, Nat.le_of_ble_eq_true rfl⟩ (Nat.le_of_ble_eq_true rfl) ⟨Nat.le_refl _, Nat.le_refl _⟩ dX7_order_65 ?_
        refine j_if_ne C0 75 dX7_order_68 (by decide) (fun (q7 : ¬ ((vX7_isIn (a2) (((F 1) + (1 : Int32))) ((3000 : Int32))) = 0)) => ?_) (fun (q7 : (vX7_isIn (a2) (((F 1) + (1 : Int32))) ((3000 : Int32))) = 0) => ?_)
        ·
          refine j_iload C0 dX7_order_75 rfl ?_
          refine j_if_eq C0 84 dX7_order_77 (by decide) (fun _ => ?_) (fun z => absurd (by decide) z)
          refine j_iconst C0 (v := 3) dX7_order_84 (by decide) ?_
          refine j_callVv C0 (k_X7_holds hl ad F G ((3 : Int32)) ) mv_X7_holds wm_X7_85 (r_recv C0) rfl rfl ⟨Nat.le_of_ble_eq_true rfl, Nat.le_of_ble_eq_true rfl⟩ (Nat.le_of_ble_eq_true rfl) ⟨Nat.le_refl _, Nat.le_refl _⟩ dX7_order_85 ?_
          refine j_top (0 : Int32) (by unfold vX7_holds; decide +kernel) ?_
          show J p l e _ s m args below meth c A 5 _ (OV D Y A ad (3 : Int32) (F 1) (F 5) (F 18) (F 19) (F 20) (G 2) (G 3) (G 4) (G 6) (G 7) (G 8) (G 9) (G 10) (G 11) (G 12) (G 13) (G 14) (G 15) (G 16) (G 17) (G 21) (G 22) (G 23) (G 24) (G 25)) 0 0 88 [(0, .ref (ad 0)), (1, .int (a1)), (2, .int (a2)), (3, .int ((vX7_isShip F G (a1)))), (4, .int ((0 : Int32)))] [.int ((0 : Int32))]
          refine j_if_ne C0 93 dX7_order_88 (by decide) (fun z => absurd (by decide) z) (fun _ => ?_)
          refine j_iconst C0 (v := 0) dX7_order_91 (by decide) ?_
          exact j_iretE C0 rfl (by rw [vX7_order, if_neg q1, if_pos q4, if_neg q5, if_neg q7]) dX7_order_92 (fun H h => by rw [sX7_order, if_neg q1, if_pos q4, if_neg q5, if_neg q7]; exact h)
        ·
          refine j_iconst C0 (v := 2) dX7_order_71 (by decide) ?_
          refine j_goto C0 85 dX7_order_72 (by decide) ?_
          refine j_callVv C0 (k_X7_holds hl ad F G ((2 : Int32)) ) mv_X7_holds wm_X7_85 (r_recv C0) rfl rfl ⟨Nat.le_of_ble_eq_true rfl, Nat.le_of_ble_eq_true rfl⟩ (Nat.le_of_ble_eq_true rfl) ⟨Nat.le_refl _, Nat.le_refl _⟩ dX7_order_85 ?_
          refine j_top (0 : Int32) (by unfold vX7_holds; decide +kernel) ?_
          show J p l e _ s m args below meth c A 5 _ (OV D Y A ad (2 : Int32) (F 1) (F 5) (F 18) (F 19) (F 20) (G 2) (G 3) (G 4) (G 6) (G 7) (G 8) (G 9) (G 10) (G 11) (G 12) (G 13) (G 14) (G 15) (G 16) (G 17) (G 21) (G 22) (G 23) (G 24) (G 25)) 0 0 88 [(0, .ref (ad 0)), (1, .int (a1)), (2, .int (a2)), (3, .int ((vX7_isShip F G (a1)))), (4, .int ((0 : Int32)))] [.int ((0 : Int32))]
          refine j_if_ne C0 93 dX7_order_88 (by decide) (fun z => absurd (by decide) z) (fun _ => ?_)
          refine j_iconst C0 (v := 0) dX7_order_91 (by decide) ?_
          exact j_iretE C0 rfl (by rw [vX7_order, if_neg q1, if_pos q4, if_neg q5, if_pos q7]) dX7_order_92 (fun H h => by rw [sX7_order, if_neg q1, if_pos q4, if_neg q5, if_pos q7]; exact h)
      ·
        refine j_iconst C0 (v := 1) dX7_order_39 (by decide) ?_
        refine j_goto C0 44 dX7_order_40 (by decide) ?_
        refine j_istore C0 (L' := [(0, .ref (ad 0)), (1, .int (a1)), (2, .int (a2)), (3, .int ((vX7_isShip F G (a1)))), (4, .int ((1 : Int32)))]) dX7_order_44 (by decide) rfl ?_
        refine j_aload_n C0 dX7_order_46 rfl ?_
        refine j_iload_n C0 dX7_order_47 rfl ?_
        refine j_if_ne C0 55 dX7_order_48 (by decide) (fun _ => ?_) (fun z => absurd z q1)
        refine j_iload_n C0 dX7_order_55 rfl ?_
        refine j_aload_n C0 dX7_order_56 rfl ?_
        refine r_gf_1 C0 (v := (F 1)) dX7_order_57 rfl ?_
        refine j_iconst C0 (v := 1) dX7_order_60 (by decide) ?_
        refine j_iadd C0 dX7_order_61 ?_
        refine j_sipush C0 (v := 3000) dX7_order_62 (by decide) ?_
        refine j_callSv C0 (k_X7_isIn hl (a2) (((F 1) + (1 : Int32))) ((3000 : Int32)) ) ms_X7_isIn wm_X7_78 rfl rfl ⟨Nat.le_of_ble_eq_true rfl, Nat.le_of_ble_eq_true rfl⟩ (Nat.le_of_ble_eq_true rfl) ⟨Nat.le_refl _, Nat.le_refl _⟩ dX7_order_65 ?_
        refine j_if_ne C0 75 dX7_order_68 (by decide) (fun (q12 : ¬ ((vX7_isIn (a2) (((F 1) + (1 : Int32))) ((3000 : Int32))) = 0)) => ?_) (fun (q12 : (vX7_isIn (a2) (((F 1) + (1 : Int32))) ((3000 : Int32))) = 0) => ?_)
        ·
          refine j_iload C0 dX7_order_75 rfl ?_
          refine j_if_eq C0 84 dX7_order_77 (by decide) (fun z => absurd z (by decide)) (fun _ => ?_)
          refine j_iconst C0 (v := 0) dX7_order_80 (by decide) ?_
          refine j_goto C0 85 dX7_order_81 (by decide) ?_
          refine j_callVv C0 (k_X7_holds hl ad F G ((0 : Int32)) ) mv_X7_holds wm_X7_85 (r_recv C0) rfl rfl ⟨Nat.le_of_ble_eq_true rfl, Nat.le_of_ble_eq_true rfl⟩ (Nat.le_of_ble_eq_true rfl) ⟨Nat.le_refl _, Nat.le_refl _⟩ dX7_order_85 ?_
          refine j_top (1 : Int32) (by unfold vX7_holds; decide +kernel) ?_
          show J p l e _ s m args below meth c A 5 _ (OV D Y A ad (0 : Int32) (F 1) (F 5) (F 18) (F 19) (F 20) (G 2) (G 3) (G 4) (G 6) (G 7) (G 8) (G 9) (G 10) (G 11) (G 12) (G 13) (G 14) (G 15) (G 16) (G 17) (G 21) (G 22) (G 23) (G 24) (G 25)) 0 0 88 [(0, .ref (ad 0)), (1, .int (a1)), (2, .int (a2)), (3, .int ((vX7_isShip F G (a1)))), (4, .int ((1 : Int32)))] [.int ((1 : Int32))]
          refine j_if_ne C0 93 dX7_order_88 (by decide) (fun _ => ?_) (fun z => absurd z (by decide))
          refine j_aload_n C0 dX7_order_93 rfl ?_
          refine r_gf_11 C0 dX7_order_94 ?_
          refine j_iload_n C0 dX7_order_97 rfl ?_
          refine j_iload_n C0 dX7_order_98 rfl ?_
          refine r_st_11 C0 (isShip_vp hs q1) dX7_order_99 ?_
          refine j_aload_n C0 dX7_order_100 rfl ?_
          refine j_callVv C0 (k_X7_ordered hl ad (hu F 0 (0 : Int32)) (hu G 11 (upd (G 11) (a1).toNatClampNeg (a2)))  hs) mv_X7_ordered wm_X7_102 (r_recv C0) rfl rfl ⟨Nat.le_of_ble_eq_true rfl, Nat.le_of_ble_eq_true rfl⟩ (Nat.le_of_ble_eq_true rfl) ⟨Nat.le_refl _, Nat.le_refl _⟩ dX7_order_101 ?_
          exact j_iretE C0 rfl (by rw [vX7_order, if_neg q1, if_pos q4, if_pos q5, if_neg q12]) dX7_order_104 (fun H h => by rw [sX7_order, if_neg q1, if_pos q4, if_pos q5, if_neg q12]; exact h)
        ·
          refine j_iconst C0 (v := 2) dX7_order_71 (by decide) ?_
          refine j_goto C0 85 dX7_order_72 (by decide) ?_
          refine j_callVv C0 (k_X7_holds hl ad F G ((2 : Int32)) ) mv_X7_holds wm_X7_85 (r_recv C0) rfl rfl ⟨Nat.le_of_ble_eq_true rfl, Nat.le_of_ble_eq_true rfl⟩ (Nat.le_of_ble_eq_true rfl) ⟨Nat.le_refl _, Nat.le_refl _⟩ dX7_order_85 ?_
          refine j_top (0 : Int32) (by unfold vX7_holds; decide +kernel) ?_
          show J p l e _ s m args below meth c A 5 _ (OV D Y A ad (2 : Int32) (F 1) (F 5) (F 18) (F 19) (F 20) (G 2) (G 3) (G 4) (G 6) (G 7) (G 8) (G 9) (G 10) (G 11) (G 12) (G 13) (G 14) (G 15) (G 16) (G 17) (G 21) (G 22) (G 23) (G 24) (G 25)) 0 0 88 [(0, .ref (ad 0)), (1, .int (a1)), (2, .int (a2)), (3, .int ((vX7_isShip F G (a1)))), (4, .int ((1 : Int32)))] [.int ((0 : Int32))]
          refine j_if_ne C0 93 dX7_order_88 (by decide) (fun z => absurd (by decide) z) (fun _ => ?_)
          refine j_iconst C0 (v := 0) dX7_order_91 (by decide) ?_
          exact j_iretE C0 rfl (by rw [vX7_order, if_neg q1, if_pos q4, if_pos q5, if_pos q12]) dX7_order_92 (fun H h => by rw [sX7_order, if_neg q1, if_pos q4, if_pos q5, if_pos q12]; exact h)
    ·
      refine j_aload_n C0 dX7_order_19 rfl ?_
      refine r_gf_10 C0 dX7_order_20 ?_
      refine j_iload_n C0 dX7_order_23 rfl ?_
      refine r_ld_10 C0 (v := ((G 10) (a1).toNatClampNeg)) (isShip_vp hs q1) dX7_order_24 rfl ?_
      refine j_iconst C0 (v := 2) dX7_order_25 (by decide) ?_
      refine j_icmp_ne C0 43 dX7_order_26 (by decide) (fun (q16 : ¬ (((G 10) (a1).toNatClampNeg) = (2 : Int32))) => ?_) (fun (q16 : ((G 10) (a1).toNatClampNeg) = (2 : Int32)) => ?_)
      ·
        refine j_iconst C0 (v := 0) dX7_order_43 (by decide) ?_
        refine j_istore C0 (L' := [(0, .ref (ad 0)), (1, .int (a1)), (2, .int (a2)), (3, .int ((vX7_isShip F G (a1)))), (4, .int ((0 : Int32)))]) dX7_order_44 (by decide) rfl ?_
        refine j_aload_n C0 dX7_order_46 rfl ?_
        refine j_iload_n C0 dX7_order_47 rfl ?_
        refine j_if_ne C0 55 dX7_order_48 (by decide) (fun _ => ?_) (fun z => absurd z q1)
        refine j_iload_n C0 dX7_order_55 rfl ?_
        refine j_aload_n C0 dX7_order_56 rfl ?_
        refine r_gf_1 C0 (v := (F 1)) dX7_order_57 rfl ?_
        refine j_iconst C0 (v := 1) dX7_order_60 (by decide) ?_
        refine j_iadd C0 dX7_order_61 ?_
        refine j_sipush C0 (v := 3000) dX7_order_62 (by decide) ?_
        refine j_callSv C0 (k_X7_isIn hl (a2) (((F 1) + (1 : Int32))) ((3000 : Int32)) ) ms_X7_isIn wm_X7_78 rfl rfl ⟨Nat.le_of_ble_eq_true rfl, Nat.le_of_ble_eq_true rfl⟩ (Nat.le_of_ble_eq_true rfl) ⟨Nat.le_refl _, Nat.le_refl _⟩ dX7_order_65 ?_
        refine j_if_ne C0 75 dX7_order_68 (by decide) (fun (q18 : ¬ ((vX7_isIn (a2) (((F 1) + (1 : Int32))) ((3000 : Int32))) = 0)) => ?_) (fun (q18 : (vX7_isIn (a2) (((F 1) + (1 : Int32))) ((3000 : Int32))) = 0) => ?_)
        ·
          refine j_iload C0 dX7_order_75 rfl ?_
          refine j_if_eq C0 84 dX7_order_77 (by decide) (fun _ => ?_) (fun z => absurd (by decide) z)
          refine j_iconst C0 (v := 3) dX7_order_84 (by decide) ?_
          refine j_callVv C0 (k_X7_holds hl ad F G ((3 : Int32)) ) mv_X7_holds wm_X7_85 (r_recv C0) rfl rfl ⟨Nat.le_of_ble_eq_true rfl, Nat.le_of_ble_eq_true rfl⟩ (Nat.le_of_ble_eq_true rfl) ⟨Nat.le_refl _, Nat.le_refl _⟩ dX7_order_85 ?_
          refine j_top (0 : Int32) (by unfold vX7_holds; decide +kernel) ?_
          show J p l e _ s m args below meth c A 5 _ (OV D Y A ad (3 : Int32) (F 1) (F 5) (F 18) (F 19) (F 20) (G 2) (G 3) (G 4) (G 6) (G 7) (G 8) (G 9) (G 10) (G 11) (G 12) (G 13) (G 14) (G 15) (G 16) (G 17) (G 21) (G 22) (G 23) (G 24) (G 25)) 0 0 88 [(0, .ref (ad 0)), (1, .int (a1)), (2, .int (a2)), (3, .int ((vX7_isShip F G (a1)))), (4, .int ((0 : Int32)))] [.int ((0 : Int32))]
          refine j_if_ne C0 93 dX7_order_88 (by decide) (fun z => absurd (by decide) z) (fun _ => ?_)
          refine j_iconst C0 (v := 0) dX7_order_91 (by decide) ?_
          exact j_iretE C0 rfl (by rw [vX7_order, if_neg q1, if_neg q4, if_neg q16, if_neg q18]) dX7_order_92 (fun H h => by rw [sX7_order, if_neg q1, if_neg q4, if_neg q16, if_neg q18]; exact h)
        ·
          refine j_iconst C0 (v := 2) dX7_order_71 (by decide) ?_
          refine j_goto C0 85 dX7_order_72 (by decide) ?_
          refine j_callVv C0 (k_X7_holds hl ad F G ((2 : Int32)) ) mv_X7_holds wm_X7_85 (r_recv C0) rfl rfl ⟨Nat.le_of_ble_eq_true rfl, Nat.le_of_ble_eq_true rfl⟩ (Nat.le_of_ble_eq_true rfl) ⟨Nat.le_refl _, Nat.le_refl _⟩ dX7_order_85 ?_
          refine j_top (0 : Int32) (by unfold vX7_holds; decide +kernel) ?_
          show J p l e _ s m args below meth c A 5 _ (OV D Y A ad (2 : Int32) (F 1) (F 5) (F 18) (F 19) (F 20) (G 2) (G 3) (G 4) (G 6) (G 7) (G 8) (G 9) (G 10) (G 11) (G 12) (G 13) (G 14) (G 15) (G 16) (G 17) (G 21) (G 22) (G 23) (G 24) (G 25)) 0 0 88 [(0, .ref (ad 0)), (1, .int (a1)), (2, .int (a2)), (3, .int ((vX7_isShip F G (a1)))), (4, .int ((0 : Int32)))] [.int ((0 : Int32))]
          refine j_if_ne C0 93 dX7_order_88 (by decide) (fun z => absurd (by decide) z) (fun _ => ?_)
          refine j_iconst C0 (v := 0) dX7_order_91 (by decide) ?_
          exact j_iretE C0 rfl (by rw [vX7_order, if_neg q1, if_neg q4, if_neg q16, if_pos q18]) dX7_order_92 (fun H h => by rw [sX7_order, if_neg q1, if_neg q4, if_neg q16, if_pos q18]; exact h)
      ·
        refine j_aload_n C0 dX7_order_29 rfl ?_
        refine r_gf_11 C0 dX7_order_30 ?_
        refine j_iload_n C0 dX7_order_33 rfl ?_
        refine r_ld_11 C0 (v := ((G 11) (a1).toNatClampNeg)) (isShip_vp hs q1) dX7_order_34 rfl ?_
        refine j_iconst C0 (v := -1) dX7_order_35 (by decide) ?_
        refine j_icmp_ne C0 43 dX7_order_36 (by decide) (fun (q22 : ¬ (((G 11) (a1).toNatClampNeg) = (-1 : Int32))) => ?_) (fun (q22 : ((G 11) (a1).toNatClampNeg) = (-1 : Int32)) => ?_)
        ·
          refine j_iconst C0 (v := 0) dX7_order_43 (by decide) ?_
          refine j_istore C0 (L' := [(0, .ref (ad 0)), (1, .int (a1)), (2, .int (a2)), (3, .int ((vX7_isShip F G (a1)))), (4, .int ((0 : Int32)))]) dX7_order_44 (by decide) rfl ?_
          refine j_aload_n C0 dX7_order_46 rfl ?_
          refine j_iload_n C0 dX7_order_47 rfl ?_
          refine j_if_ne C0 55 dX7_order_48 (by decide) (fun _ => ?_) (fun z => absurd z q1)
          refine j_iload_n C0 dX7_order_55 rfl ?_
          refine j_aload_n C0 dX7_order_56 rfl ?_
          refine r_gf_1 C0 (v := (F 1)) dX7_order_57 rfl ?_
          refine j_iconst C0 (v := 1) dX7_order_60 (by decide) ?_
          refine j_iadd C0 dX7_order_61 ?_
          refine j_sipush C0 (v := 3000) dX7_order_62 (by decide) ?_
          refine j_callSv C0 (k_X7_isIn hl (a2) (((F 1) + (1 : Int32))) ((3000 : Int32)) ) ms_X7_isIn wm_X7_78 rfl rfl ⟨Nat.le_of_ble_eq_true rfl, Nat.le_of_ble_eq_true rfl⟩ (Nat.le_of_ble_eq_true rfl) ⟨Nat.le_refl _, Nat.le_refl _⟩ dX7_order_65 ?_
          refine j_if_ne C0 75 dX7_order_68 (by decide) (fun (q24 : ¬ ((vX7_isIn (a2) (((F 1) + (1 : Int32))) ((3000 : Int32))) = 0)) => ?_) (fun (q24 : (vX7_isIn (a2) (((F 1) + (1 : Int32))) ((3000 : Int32))) = 0) => ?_)
          ·
            refine j_iload C0 dX7_order_75 rfl ?_
            refine j_if_eq C0 84 dX7_order_77 (by decide) (fun _ => ?_) (fun z => absurd (by decide) z)
            refine j_iconst C0 (v := 3) dX7_order_84 (by decide) ?_
            refine j_callVv C0 (k_X7_holds hl ad F G ((3 : Int32)) ) mv_X7_holds wm_X7_85 (r_recv C0) rfl rfl ⟨Nat.le_of_ble_eq_true rfl, Nat.le_of_ble_eq_true rfl⟩ (Nat.le_of_ble_eq_true rfl) ⟨Nat.le_refl _, Nat.le_refl _⟩ dX7_order_85 ?_
            refine j_top (0 : Int32) (by unfold vX7_holds; decide +kernel) ?_
            show J p l e _ s m args below meth c A 5 _ (OV D Y A ad (3 : Int32) (F 1) (F 5) (F 18) (F 19) (F 20) (G 2) (G 3) (G 4) (G 6) (G 7) (G 8) (G 9) (G 10) (G 11) (G 12) (G 13) (G 14) (G 15) (G 16) (G 17) (G 21) (G 22) (G 23) (G 24) (G 25)) 0 0 88 [(0, .ref (ad 0)), (1, .int (a1)), (2, .int (a2)), (3, .int ((vX7_isShip F G (a1)))), (4, .int ((0 : Int32)))] [.int ((0 : Int32))]
            refine j_if_ne C0 93 dX7_order_88 (by decide) (fun z => absurd (by decide) z) (fun _ => ?_)
            refine j_iconst C0 (v := 0) dX7_order_91 (by decide) ?_
            exact j_iretE C0 rfl (by rw [vX7_order, if_neg q1, if_neg q4, if_pos q16, if_neg q22, if_neg q24]) dX7_order_92 (fun H h => by rw [sX7_order, if_neg q1, if_neg q4, if_pos q16, if_neg q22, if_neg q24]; exact h)
          ·
            refine j_iconst C0 (v := 2) dX7_order_71 (by decide) ?_
            refine j_goto C0 85 dX7_order_72 (by decide) ?_
            refine j_callVv C0 (k_X7_holds hl ad F G ((2 : Int32)) ) mv_X7_holds wm_X7_85 (r_recv C0) rfl rfl ⟨Nat.le_of_ble_eq_true rfl, Nat.le_of_ble_eq_true rfl⟩ (Nat.le_of_ble_eq_true rfl) ⟨Nat.le_refl _, Nat.le_refl _⟩ dX7_order_85 ?_
            refine j_top (0 : Int32) (by unfold vX7_holds; decide +kernel) ?_
            show J p l e _ s m args below meth c A 5 _ (OV D Y A ad (2 : Int32) (F 1) (F 5) (F 18) (F 19) (F 20) (G 2) (G 3) (G 4) (G 6) (G 7) (G 8) (G 9) (G 10) (G 11) (G 12) (G 13) (G 14) (G 15) (G 16) (G 17) (G 21) (G 22) (G 23) (G 24) (G 25)) 0 0 88 [(0, .ref (ad 0)), (1, .int (a1)), (2, .int (a2)), (3, .int ((vX7_isShip F G (a1)))), (4, .int ((0 : Int32)))] [.int ((0 : Int32))]
            refine j_if_ne C0 93 dX7_order_88 (by decide) (fun z => absurd (by decide) z) (fun _ => ?_)
            refine j_iconst C0 (v := 0) dX7_order_91 (by decide) ?_
            exact j_iretE C0 rfl (by rw [vX7_order, if_neg q1, if_neg q4, if_pos q16, if_neg q22, if_pos q24]) dX7_order_92 (fun H h => by rw [sX7_order, if_neg q1, if_neg q4, if_pos q16, if_neg q22, if_pos q24]; exact h)
        ·
          refine j_iconst C0 (v := 1) dX7_order_39 (by decide) ?_
          refine j_goto C0 44 dX7_order_40 (by decide) ?_
          refine j_istore C0 (L' := [(0, .ref (ad 0)), (1, .int (a1)), (2, .int (a2)), (3, .int ((vX7_isShip F G (a1)))), (4, .int ((1 : Int32)))]) dX7_order_44 (by decide) rfl ?_
          refine j_aload_n C0 dX7_order_46 rfl ?_
          refine j_iload_n C0 dX7_order_47 rfl ?_
          refine j_if_ne C0 55 dX7_order_48 (by decide) (fun _ => ?_) (fun z => absurd z q1)
          refine j_iload_n C0 dX7_order_55 rfl ?_
          refine j_aload_n C0 dX7_order_56 rfl ?_
          refine r_gf_1 C0 (v := (F 1)) dX7_order_57 rfl ?_
          refine j_iconst C0 (v := 1) dX7_order_60 (by decide) ?_
          refine j_iadd C0 dX7_order_61 ?_
          refine j_sipush C0 (v := 3000) dX7_order_62 (by decide) ?_
          refine j_callSv C0 (k_X7_isIn hl (a2) (((F 1) + (1 : Int32))) ((3000 : Int32)) ) ms_X7_isIn wm_X7_78 rfl rfl ⟨Nat.le_of_ble_eq_true rfl, Nat.le_of_ble_eq_true rfl⟩ (Nat.le_of_ble_eq_true rfl) ⟨Nat.le_refl _, Nat.le_refl _⟩ dX7_order_65 ?_
          refine j_if_ne C0 75 dX7_order_68 (by decide) (fun (q29 : ¬ ((vX7_isIn (a2) (((F 1) + (1 : Int32))) ((3000 : Int32))) = 0)) => ?_) (fun (q29 : (vX7_isIn (a2) (((F 1) + (1 : Int32))) ((3000 : Int32))) = 0) => ?_)
          ·
            refine j_iload C0 dX7_order_75 rfl ?_
            refine j_if_eq C0 84 dX7_order_77 (by decide) (fun z => absurd z (by decide)) (fun _ => ?_)
            refine j_iconst C0 (v := 0) dX7_order_80 (by decide) ?_
            refine j_goto C0 85 dX7_order_81 (by decide) ?_
            refine j_callVv C0 (k_X7_holds hl ad F G ((0 : Int32)) ) mv_X7_holds wm_X7_85 (r_recv C0) rfl rfl ⟨Nat.le_of_ble_eq_true rfl, Nat.le_of_ble_eq_true rfl⟩ (Nat.le_of_ble_eq_true rfl) ⟨Nat.le_refl _, Nat.le_refl _⟩ dX7_order_85 ?_
            refine j_top (1 : Int32) (by unfold vX7_holds; decide +kernel) ?_
            show J p l e _ s m args below meth c A 5 _ (OV D Y A ad (0 : Int32) (F 1) (F 5) (F 18) (F 19) (F 20) (G 2) (G 3) (G 4) (G 6) (G 7) (G 8) (G 9) (G 10) (G 11) (G 12) (G 13) (G 14) (G 15) (G 16) (G 17) (G 21) (G 22) (G 23) (G 24) (G 25)) 0 0 88 [(0, .ref (ad 0)), (1, .int (a1)), (2, .int (a2)), (3, .int ((vX7_isShip F G (a1)))), (4, .int ((1 : Int32)))] [.int ((1 : Int32))]
            refine j_if_ne C0 93 dX7_order_88 (by decide) (fun _ => ?_) (fun z => absurd z (by decide))
            refine j_aload_n C0 dX7_order_93 rfl ?_
            refine r_gf_11 C0 dX7_order_94 ?_
            refine j_iload_n C0 dX7_order_97 rfl ?_
            refine j_iload_n C0 dX7_order_98 rfl ?_
            refine r_st_11 C0 (isShip_vp hs q1) dX7_order_99 ?_
            refine j_aload_n C0 dX7_order_100 rfl ?_
            refine j_callVv C0 (k_X7_ordered hl ad (hu F 0 (0 : Int32)) (hu G 11 (upd (G 11) (a1).toNatClampNeg (a2)))  hs) mv_X7_ordered wm_X7_102 (r_recv C0) rfl rfl ⟨Nat.le_of_ble_eq_true rfl, Nat.le_of_ble_eq_true rfl⟩ (Nat.le_of_ble_eq_true rfl) ⟨Nat.le_refl _, Nat.le_refl _⟩ dX7_order_101 ?_
            exact j_iretE C0 rfl (by rw [vX7_order, if_neg q1, if_neg q4, if_pos q16, if_pos q22, if_neg q29]) dX7_order_104 (fun H h => by rw [sX7_order, if_neg q1, if_neg q4, if_pos q16, if_pos q22, if_neg q29]; exact h)
          ·
            refine j_iconst C0 (v := 2) dX7_order_71 (by decide) ?_
            refine j_goto C0 85 dX7_order_72 (by decide) ?_
            refine j_callVv C0 (k_X7_holds hl ad F G ((2 : Int32)) ) mv_X7_holds wm_X7_85 (r_recv C0) rfl rfl ⟨Nat.le_of_ble_eq_true rfl, Nat.le_of_ble_eq_true rfl⟩ (Nat.le_of_ble_eq_true rfl) ⟨Nat.le_refl _, Nat.le_refl _⟩ dX7_order_85 ?_
            refine j_top (0 : Int32) (by unfold vX7_holds; decide +kernel) ?_
            show J p l e _ s m args below meth c A 5 _ (OV D Y A ad (2 : Int32) (F 1) (F 5) (F 18) (F 19) (F 20) (G 2) (G 3) (G 4) (G 6) (G 7) (G 8) (G 9) (G 10) (G 11) (G 12) (G 13) (G 14) (G 15) (G 16) (G 17) (G 21) (G 22) (G 23) (G 24) (G 25)) 0 0 88 [(0, .ref (ad 0)), (1, .int (a1)), (2, .int (a2)), (3, .int ((vX7_isShip F G (a1)))), (4, .int ((1 : Int32)))] [.int ((0 : Int32))]
            refine j_if_ne C0 93 dX7_order_88 (by decide) (fun z => absurd (by decide) z) (fun _ => ?_)
            refine j_iconst C0 (v := 0) dX7_order_91 (by decide) ?_
            exact j_iretE C0 rfl (by rw [vX7_order, if_neg q1, if_neg q4, if_pos q16, if_pos q22, if_pos q29]) dX7_order_92 (fun H h => by rw [sX7_order, if_neg q1, if_neg q4, if_pos q16, if_pos q22, if_pos q29]; exact h)
/-! ## cancel(I)I -/
def vX7_cancel (F : Nat → Int32) (G : Nat → Nat → Int32) (a1 : Int32) : Int32 := (if (vX7_isShip F G (a1)) = 0 then (0 : Int32) else (if ((G 11) (a1).toNatClampNeg) = (-1 : Int32) then (0 : Int32) else ((G 11) (a1).toNatClampNeg)))
def sX7_cancel (F : Nat → Int32) (G : Nat → Nat → Int32) (a1 : Int32) : (Nat → Int32) × (Nat → Nat → Int32) := (if (vX7_isShip F G (a1)) = 0 then ((hu F 0 (1 : Int32)), G) else (if ((G 11) (a1).toNatClampNeg) = (-1 : Int32) then ((hu F 0 (2 : Int32)), G) else ((hu F 0 (0 : Int32)), (hu G 11 (upd (G 11) (a1).toNatClampNeg ((-1 : Int32)))))))
set_option maxRecDepth 100000 in
set_option maxHeartbeats 4000000 in
theorem k_X7_cancel {l : Launch} (hl : l.stackTraces = false) {D : va_G} {Y : Nat → ClassId} {A : Nat → Prop} {E : State → Prop} (ad : Nat → Nat) (F : Nat → Int32) (G : Nat → Nat → Int32) (a1 : Int32) (hI : RI F G) : KM l yX7_cancel cX7_cancel 4 (some .int) D Y A E 2 43 0 0 [.ref (ad 0), .int (a1)] (OR D Y A ad F G) (some (.int (vX7_cancel F G a1))) (OR D Y A ad (sX7_cancel F G a1).1 (sX7_cancel F G a1).2) := by
  refine KM_of RX7 [(0, .ref (ad 0)), (1, .int (a1))] rfl (by decide) hl (Nat.le_of_ble_eq_true rfl) rfl (lok_of rfl rfl) ?_
  intro p e s m args below meth c C0
  obtain ⟨hn, hs, hm, hb, hw, hr⟩ := id hI
  refine j_aload_n C0 dX7_cancel_0 rfl ?_
  refine j_iload_n C0 dX7_cancel_1 rfl ?_
  refine j_callVv C0 (k_X7_isShip hl ad F G (a1) ) mv_X7_isShip wm_X7_99 (r_recv C0) rfl rfl ⟨Nat.le_of_ble_eq_true rfl, Nat.le_of_ble_eq_true rfl⟩ (Nat.le_of_ble_eq_true rfl) ⟨Nat.le_refl _, Nat.le_refl _⟩ dX7_cancel_2 ?_
  refine j_istore_n C0 (L' := [(0, .ref (ad 0)), (1, .int (a1)), (2, .int ((vX7_isShip F G (a1))))]) dX7_cancel_5 (by decide) rfl ?_
  refine j_aload_n C0 dX7_cancel_6 rfl ?_
  refine j_iload_n C0 dX7_cancel_7 rfl ?_
  refine j_if_ne C0 15 dX7_cancel_8 (by decide) (fun (q1 : ¬ ((vX7_isShip F G (a1)) = 0)) => ?_) (fun (q1 : (vX7_isShip F G (a1)) = 0) => ?_)
  ·
    refine j_aload_n C0 dX7_cancel_15 rfl ?_
    refine r_gf_11 C0 dX7_cancel_16 ?_
    refine j_iload_n C0 dX7_cancel_19 rfl ?_
    refine r_ld_11 C0 (v := ((G 11) (a1).toNatClampNeg)) (isShip_vp hs q1) dX7_cancel_20 rfl ?_
    refine j_iconst C0 (v := -1) dX7_cancel_21 (by decide) ?_
    refine j_icmp_ne C0 29 dX7_cancel_22 (by decide) (fun (q2 : ¬ (((G 11) (a1).toNatClampNeg) = (-1 : Int32))) => ?_) (fun (q2 : ((G 11) (a1).toNatClampNeg) = (-1 : Int32)) => ?_)
    ·
      refine j_iconst C0 (v := 0) dX7_cancel_29 (by decide) ?_
      refine j_callVv C0 (k_X7_holds hl ad F G ((0 : Int32)) ) mv_X7_holds wm_X7_85 (r_recv C0) rfl rfl ⟨Nat.le_of_ble_eq_true rfl, Nat.le_of_ble_eq_true rfl⟩ (Nat.le_of_ble_eq_true rfl) ⟨Nat.le_refl _, Nat.le_refl _⟩ dX7_cancel_30 ?_
      refine j_top (1 : Int32) (by unfold vX7_holds; decide +kernel) ?_
      show J p l e _ s m args below meth c A 4 _ (OV D Y A ad (0 : Int32) (F 1) (F 5) (F 18) (F 19) (F 20) (G 2) (G 3) (G 4) (G 6) (G 7) (G 8) (G 9) (G 10) (G 11) (G 12) (G 13) (G 14) (G 15) (G 16) (G 17) (G 21) (G 22) (G 23) (G 24) (G 25)) 0 0 33 [(0, .ref (ad 0)), (1, .int (a1)), (2, .int ((vX7_isShip F G (a1))))] [.int ((1 : Int32))]
      refine j_if_ne C0 38 dX7_cancel_33 (by decide) (fun _ => ?_) (fun z => absurd z (by decide))
      refine j_aload_n C0 dX7_cancel_38 rfl ?_
      refine r_gf_11 C0 dX7_cancel_39 ?_
      refine j_iload_n C0 dX7_cancel_42 rfl ?_
      refine r_ld_11 C0 (v := ((G 11) (a1).toNatClampNeg)) (isShip_vp hs q1) dX7_cancel_43 rfl ?_
      refine j_istore_n C0 (L' := [(0, .ref (ad 0)), (1, .int (a1)), (2, .int ((vX7_isShip F G (a1)))), (3, .int (((G 11) (a1).toNatClampNeg)))]) dX7_cancel_44 (by decide) rfl ?_
      refine j_aload_n C0 dX7_cancel_45 rfl ?_
      refine r_gf_11 C0 dX7_cancel_46 ?_
      refine j_iload_n C0 dX7_cancel_49 rfl ?_
      refine j_iconst C0 (v := -1) dX7_cancel_50 (by decide) ?_
      refine r_st_11 C0 (isShip_vp hs q1) dX7_cancel_51 ?_
      refine j_iload_n C0 dX7_cancel_52 rfl ?_
      exact j_iretE C0 rfl (by rw [vX7_cancel, if_neg q1, if_neg q2]) dX7_cancel_53 (fun H h => by rw [sX7_cancel, if_neg q1, if_neg q2]; exact h)
    ·
      refine j_iconst C0 (v := 2) dX7_cancel_25 (by decide) ?_
      refine j_goto C0 30 dX7_cancel_26 (by decide) ?_
      refine j_callVv C0 (k_X7_holds hl ad F G ((2 : Int32)) ) mv_X7_holds wm_X7_85 (r_recv C0) rfl rfl ⟨Nat.le_of_ble_eq_true rfl, Nat.le_of_ble_eq_true rfl⟩ (Nat.le_of_ble_eq_true rfl) ⟨Nat.le_refl _, Nat.le_refl _⟩ dX7_cancel_30 ?_
      refine j_top (0 : Int32) (by unfold vX7_holds; decide +kernel) ?_
      show J p l e _ s m args below meth c A 4 _ (OV D Y A ad (2 : Int32) (F 1) (F 5) (F 18) (F 19) (F 20) (G 2) (G 3) (G 4) (G 6) (G 7) (G 8) (G 9) (G 10) (G 11) (G 12) (G 13) (G 14) (G 15) (G 16) (G 17) (G 21) (G 22) (G 23) (G 24) (G 25)) 0 0 33 [(0, .ref (ad 0)), (1, .int (a1)), (2, .int ((vX7_isShip F G (a1))))] [.int ((0 : Int32))]
      refine j_if_ne C0 38 dX7_cancel_33 (by decide) (fun z => absurd (by decide) z) (fun _ => ?_)
      refine j_iconst C0 (v := 0) dX7_cancel_36 (by decide) ?_
      exact j_iretE C0 rfl (by rw [vX7_cancel, if_neg q1, if_pos q2]) dX7_cancel_37 (fun H h => by rw [sX7_cancel, if_neg q1, if_pos q2]; exact h)
  ·
    refine j_iconst C0 (v := 1) dX7_cancel_11 (by decide) ?_
    refine j_goto C0 30 dX7_cancel_12 (by decide) ?_
    refine j_callVv C0 (k_X7_holds hl ad F G ((1 : Int32)) ) mv_X7_holds wm_X7_85 (r_recv C0) rfl rfl ⟨Nat.le_of_ble_eq_true rfl, Nat.le_of_ble_eq_true rfl⟩ (Nat.le_of_ble_eq_true rfl) ⟨Nat.le_refl _, Nat.le_refl _⟩ dX7_cancel_30 ?_
    refine j_top (0 : Int32) (by unfold vX7_holds; decide +kernel) ?_
    show J p l e _ s m args below meth c A 4 _ (OV D Y A ad (1 : Int32) (F 1) (F 5) (F 18) (F 19) (F 20) (G 2) (G 3) (G 4) (G 6) (G 7) (G 8) (G 9) (G 10) (G 11) (G 12) (G 13) (G 14) (G 15) (G 16) (G 17) (G 21) (G 22) (G 23) (G 24) (G 25)) 0 0 33 [(0, .ref (ad 0)), (1, .int (a1)), (2, .int ((vX7_isShip F G (a1))))] [.int ((0 : Int32))]
    refine j_if_ne C0 38 dX7_cancel_33 (by decide) (fun z => absurd (by decide) z) (fun _ => ?_)
    refine j_iconst C0 (v := 0) dX7_cancel_36 (by decide) ?_
    exact j_iretE C0 rfl (by rw [vX7_cancel, if_pos q1]) dX7_cancel_37 (fun H h => by rw [sX7_cancel, if_pos q1]; exact h)
/-! ## hasWater(II)Z -/
def vX7_hasWater (F : Nat → Int32) (G : Nat → Nat → Int32) (a1 : Int32) (a2 : Int32) : Int32 := (if (vX7_isShip F G (a1)) = 0 then (0 : Int32) else (if (vX7_isIn (a2) ((0 : Int32)) ((3000 : Int32))) = 0 then (0 : Int32) else (if (vX7_floats (hu F 0 (0 : Int32)) G (a1) (a2)) = 0 then (0 : Int32) else (1 : Int32))))
def sX7_hasWater (F : Nat → Int32) (G : Nat → Nat → Int32) (a1 : Int32) (a2 : Int32) : (Nat → Int32) × (Nat → Nat → Int32) := (if (vX7_isShip F G (a1)) = 0 then ((hu F 0 (1 : Int32)), G) else (if (vX7_isIn (a2) ((0 : Int32)) ((3000 : Int32))) = 0 then ((hu F 0 (2 : Int32)), G) else (if (vX7_floats (hu F 0 (0 : Int32)) G (a1) (a2)) = 0 then ((hu F 0 (0 : Int32)), G) else ((hu F 0 (0 : Int32)), G))))
set_option maxRecDepth 100000 in
set_option maxHeartbeats 4000000 in
theorem k_X7_hasWater {l : Launch} (hl : l.stackTraces = false) {D : va_G} {Y : Nat → ClassId} {A : Nat → Prop} {E : State → Prop} (ad : Nat → Nat) (F : Nat → Int32) (G : Nat → Nat → Int32) (a1 : Int32) (a2 : Int32) (hI : RI F G) : KM l yX7_hasWater cX7_hasWater 3 (some .boolean) D Y A E 2 47 0 0 [.ref (ad 0), .int (a1), .int (a2)] (OR D Y A ad F G) (some (.int (vX7_hasWater F G a1 a2))) (OR D Y A ad (sX7_hasWater F G a1 a2).1 (sX7_hasWater F G a1 a2).2) := by
  refine KM_of RX7 [(0, .ref (ad 0)), (1, .int (a1)), (2, .int (a2))] rfl (by decide) hl (Nat.le_of_ble_eq_true rfl) rfl (lok_of rfl rfl) ?_
  intro p e s m args below meth c C0
  obtain ⟨hn, hs, hm, hb, hw, hr⟩ := id hI
  refine j_aload_n C0 dX7_hasWater_0 rfl ?_
  refine j_aload_n C0 dX7_hasWater_1 rfl ?_
  refine j_iload_n C0 dX7_hasWater_2 rfl ?_
  refine j_callVv C0 (k_X7_isShip hl ad F G (a1) ) mv_X7_isShip wm_X7_99 (r_recv C0) rfl rfl ⟨Nat.le_of_ble_eq_true rfl, Nat.le_of_ble_eq_true rfl⟩ (Nat.le_of_ble_eq_true rfl) ⟨Nat.le_refl _, Nat.le_refl _⟩ dX7_hasWater_3 ?_
  refine j_if_ne C0 13 dX7_hasWater_6 (by decide) (fun (q1 : ¬ ((vX7_isShip F G (a1)) = 0)) => ?_) (fun (q1 : (vX7_isShip F G (a1)) = 0) => ?_)
  ·
    refine j_iload_n C0 dX7_hasWater_13 rfl ?_
    refine j_iconst C0 (v := 0) dX7_hasWater_14 (by decide) ?_
    refine j_sipush C0 (v := 3000) dX7_hasWater_15 (by decide) ?_
    refine j_callSv C0 (k_X7_isIn hl (a2) ((0 : Int32)) ((3000 : Int32)) ) ms_X7_isIn wm_X7_78 rfl rfl ⟨Nat.le_of_ble_eq_true rfl, Nat.le_of_ble_eq_true rfl⟩ (Nat.le_of_ble_eq_true rfl) ⟨Nat.le_refl _, Nat.le_refl _⟩ dX7_hasWater_18 ?_
    refine j_if_eq C0 28 dX7_hasWater_21 (by decide) (fun (q2 : (vX7_isIn (a2) ((0 : Int32)) ((3000 : Int32))) = 0) => ?_) (fun (q2 : ¬ ((vX7_isIn (a2) ((0 : Int32)) ((3000 : Int32))) = 0)) => ?_)
    ·
      refine j_iconst C0 (v := 2) dX7_hasWater_28 (by decide) ?_
      refine j_callVv C0 (k_X7_holds hl ad F G ((2 : Int32)) ) mv_X7_holds wm_X7_85 (r_recv C0) rfl rfl ⟨Nat.le_of_ble_eq_true rfl, Nat.le_of_ble_eq_true rfl⟩ (Nat.le_of_ble_eq_true rfl) ⟨Nat.le_refl _, Nat.le_refl _⟩ dX7_hasWater_29 ?_
      refine j_top (0 : Int32) (by unfold vX7_holds; decide +kernel) ?_
      show J p l e _ s m args below meth c A 3 _ (OV D Y A ad (2 : Int32) (F 1) (F 5) (F 18) (F 19) (F 20) (G 2) (G 3) (G 4) (G 6) (G 7) (G 8) (G 9) (G 10) (G 11) (G 12) (G 13) (G 14) (G 15) (G 16) (G 17) (G 21) (G 22) (G 23) (G 24) (G 25)) 0 0 32 [(0, .ref (ad 0)), (1, .int (a1)), (2, .int (a2))] [.int ((0 : Int32))]
      refine j_if_eq C0 48 dX7_hasWater_32 (by decide) (fun _ => ?_) (fun z => absurd (by decide) z)
      refine j_iconst C0 (v := 0) dX7_hasWater_48 (by decide) ?_
      exact j_zretE C0 rfl (by rw [vX7_hasWater, if_neg q1, if_pos q2]) (by decide) dX7_hasWater_49 (fun H h => by rw [sX7_hasWater, if_neg q1, if_pos q2]; exact h)
    ·
      refine j_iconst C0 (v := 0) dX7_hasWater_24 (by decide) ?_
      refine j_goto C0 29 dX7_hasWater_25 (by decide) ?_
      refine j_callVv C0 (k_X7_holds hl ad F G ((0 : Int32)) ) mv_X7_holds wm_X7_85 (r_recv C0) rfl rfl ⟨Nat.le_of_ble_eq_true rfl, Nat.le_of_ble_eq_true rfl⟩ (Nat.le_of_ble_eq_true rfl) ⟨Nat.le_refl _, Nat.le_refl _⟩ dX7_hasWater_29 ?_
      refine j_top (1 : Int32) (by unfold vX7_holds; decide +kernel) ?_
      show J p l e _ s m args below meth c A 3 _ (OV D Y A ad (0 : Int32) (F 1) (F 5) (F 18) (F 19) (F 20) (G 2) (G 3) (G 4) (G 6) (G 7) (G 8) (G 9) (G 10) (G 11) (G 12) (G 13) (G 14) (G 15) (G 16) (G 17) (G 21) (G 22) (G 23) (G 24) (G 25)) 0 0 32 [(0, .ref (ad 0)), (1, .int (a1)), (2, .int (a2))] [.int ((1 : Int32))]
      refine j_if_eq C0 48 dX7_hasWater_32 (by decide) (fun z => absurd z (by decide)) (fun _ => ?_)
      refine j_aload_n C0 dX7_hasWater_35 rfl ?_
      refine j_iload_n C0 dX7_hasWater_36 rfl ?_
      refine j_iload_n C0 dX7_hasWater_37 rfl ?_
      refine j_callVv C0 (k_X7_floats hl ad (hu F 0 (0 : Int32)) G (a1) (a2) (isShip_vp hs q1) (hb _ (vp_cl (isShip_vp hs q1))) (isIn_vp q2 (by decide)) (isIn_next q2)) mv_X7_floats wm_X7_106 (r_recv C0) rfl rfl ⟨Nat.le_of_ble_eq_true rfl, Nat.le_of_ble_eq_true rfl⟩ (Nat.le_of_ble_eq_true rfl) ⟨Nat.le_refl _, Nat.le_refl _⟩ dX7_hasWater_38 ?_
      refine j_if_eq C0 48 dX7_hasWater_41 (by decide) (fun (q5 : (vX7_floats (hu F 0 (0 : Int32)) G (a1) (a2)) = 0) => ?_) (fun (q5 : ¬ ((vX7_floats (hu F 0 (0 : Int32)) G (a1) (a2)) = 0)) => ?_)
      ·
        refine j_iconst C0 (v := 0) dX7_hasWater_48 (by decide) ?_
        exact j_zretE C0 rfl (by rw [vX7_hasWater, if_neg q1, if_neg q2, if_pos q5]) (by decide) dX7_hasWater_49 (fun H h => by rw [sX7_hasWater, if_neg q1, if_neg q2, if_pos q5]; exact h)
      ·
        refine j_iconst C0 (v := 1) dX7_hasWater_44 (by decide) ?_
        refine j_goto C0 49 dX7_hasWater_45 (by decide) ?_
        exact j_zretE C0 rfl (by rw [vX7_hasWater, if_neg q1, if_neg q2, if_neg q5]) (by decide) dX7_hasWater_49 (fun H h => by rw [sX7_hasWater, if_neg q1, if_neg q2, if_neg q5]; exact h)
  ·
    refine j_iconst C0 (v := 1) dX7_hasWater_9 (by decide) ?_
    refine j_goto C0 29 dX7_hasWater_10 (by decide) ?_
    refine j_callVv C0 (k_X7_holds hl ad F G ((1 : Int32)) ) mv_X7_holds wm_X7_85 (r_recv C0) rfl rfl ⟨Nat.le_of_ble_eq_true rfl, Nat.le_of_ble_eq_true rfl⟩ (Nat.le_of_ble_eq_true rfl) ⟨Nat.le_refl _, Nat.le_refl _⟩ dX7_hasWater_29 ?_
    refine j_top (0 : Int32) (by unfold vX7_holds; decide +kernel) ?_
    show J p l e _ s m args below meth c A 3 _ (OV D Y A ad (1 : Int32) (F 1) (F 5) (F 18) (F 19) (F 20) (G 2) (G 3) (G 4) (G 6) (G 7) (G 8) (G 9) (G 10) (G 11) (G 12) (G 13) (G 14) (G 15) (G 16) (G 17) (G 21) (G 22) (G 23) (G 24) (G 25)) 0 0 32 [(0, .ref (ad 0)), (1, .int (a1)), (2, .int (a2))] [.int ((0 : Int32))]
    refine j_if_eq C0 48 dX7_hasWater_32 (by decide) (fun _ => ?_) (fun z => absurd (by decide) z)
    refine j_iconst C0 (v := 0) dX7_hasWater_48 (by decide) ?_
    exact j_zretE C0 rfl (by rw [vX7_hasWater, if_pos q1]) (by decide) dX7_hasWater_49 (fun H h => by rw [sX7_hasWater, if_pos q1]; exact h)
/-! ## state(I)I -/
def vX7_state (F : Nat → Int32) (G : Nat → Nat → Int32) (a1 : Int32) : Int32 := (if (vX7_isShip F G (a1)) = 0 then (0 : Int32) else ((G 10) (a1).toNatClampNeg))
def sX7_state (F : Nat → Int32) (G : Nat → Nat → Int32) (a1 : Int32) : (Nat → Int32) × (Nat → Nat → Int32) := (if (vX7_isShip F G (a1)) = 0 then ((hu F 0 (1 : Int32)), G) else ((hu F 0 (0 : Int32)), G))
set_option maxRecDepth 100000 in
set_option maxHeartbeats 4000000 in
theorem k_X7_state {l : Launch} (hl : l.stackTraces = false) {D : va_G} {Y : Nat → ClassId} {A : Nat → Prop} {E : State → Prop} (ad : Nat → Nat) (F : Nat → Int32) (G : Nat → Nat → Int32) (a1 : Int32) (hI : RI F G) : KM l yX7_state cX7_state 2 (some .int) D Y A E 2 43 0 0 [.ref (ad 0), .int (a1)] (OR D Y A ad F G) (some (.int (vX7_state F G a1))) (OR D Y A ad (sX7_state F G a1).1 (sX7_state F G a1).2) := by
  refine KM_of RX7 [(0, .ref (ad 0)), (1, .int (a1))] rfl (by decide) hl (Nat.le_of_ble_eq_true rfl) rfl (lok_of rfl rfl) ?_
  intro p e s m args below meth c C0
  obtain ⟨hn, hs, hm, hb, hw, hr⟩ := id hI
  refine j_aload_n C0 dX7_state_0 rfl ?_
  refine j_aload_n C0 dX7_state_1 rfl ?_
  refine j_iload_n C0 dX7_state_2 rfl ?_
  refine j_callVv C0 (k_X7_isShip hl ad F G (a1) ) mv_X7_isShip wm_X7_99 (r_recv C0) rfl rfl ⟨Nat.le_of_ble_eq_true rfl, Nat.le_of_ble_eq_true rfl⟩ (Nat.le_of_ble_eq_true rfl) ⟨Nat.le_refl _, Nat.le_refl _⟩ dX7_state_3 ?_
  refine j_if_eq C0 13 dX7_state_6 (by decide) (fun (q1 : (vX7_isShip F G (a1)) = 0) => ?_) (fun (q1 : ¬ ((vX7_isShip F G (a1)) = 0)) => ?_)
  ·
    refine j_iconst C0 (v := 1) dX7_state_13 (by decide) ?_
    refine j_callVv C0 (k_X7_holds hl ad F G ((1 : Int32)) ) mv_X7_holds wm_X7_85 (r_recv C0) rfl rfl ⟨Nat.le_of_ble_eq_true rfl, Nat.le_of_ble_eq_true rfl⟩ (Nat.le_of_ble_eq_true rfl) ⟨Nat.le_refl _, Nat.le_refl _⟩ dX7_state_14 ?_
    refine j_top (0 : Int32) (by unfold vX7_holds; decide +kernel) ?_
    show J p l e _ s m args below meth c A 2 _ (OV D Y A ad (1 : Int32) (F 1) (F 5) (F 18) (F 19) (F 20) (G 2) (G 3) (G 4) (G 6) (G 7) (G 8) (G 9) (G 10) (G 11) (G 12) (G 13) (G 14) (G 15) (G 16) (G 17) (G 21) (G 22) (G 23) (G 24) (G 25)) 0 0 17 [(0, .ref (ad 0)), (1, .int (a1))] [.int ((0 : Int32))]
    refine j_if_eq C0 29 dX7_state_17 (by decide) (fun _ => ?_) (fun z => absurd (by decide) z)
    refine j_iconst C0 (v := 0) dX7_state_29 (by decide) ?_
    exact j_iretE C0 rfl (by rw [vX7_state, if_pos q1]) dX7_state_30 (fun H h => by rw [sX7_state, if_pos q1]; exact h)
  ·
    refine j_iconst C0 (v := 0) dX7_state_9 (by decide) ?_
    refine j_goto C0 14 dX7_state_10 (by decide) ?_
    refine j_callVv C0 (k_X7_holds hl ad F G ((0 : Int32)) ) mv_X7_holds wm_X7_85 (r_recv C0) rfl rfl ⟨Nat.le_of_ble_eq_true rfl, Nat.le_of_ble_eq_true rfl⟩ (Nat.le_of_ble_eq_true rfl) ⟨Nat.le_refl _, Nat.le_refl _⟩ dX7_state_14 ?_
    refine j_top (1 : Int32) (by unfold vX7_holds; decide +kernel) ?_
    show J p l e _ s m args below meth c A 2 _ (OV D Y A ad (0 : Int32) (F 1) (F 5) (F 18) (F 19) (F 20) (G 2) (G 3) (G 4) (G 6) (G 7) (G 8) (G 9) (G 10) (G 11) (G 12) (G 13) (G 14) (G 15) (G 16) (G 17) (G 21) (G 22) (G 23) (G 24) (G 25)) 0 0 17 [(0, .ref (ad 0)), (1, .int (a1))] [.int ((1 : Int32))]
    refine j_if_eq C0 29 dX7_state_17 (by decide) (fun z => absurd z (by decide)) (fun _ => ?_)
    refine j_aload_n C0 dX7_state_20 rfl ?_
    refine r_gf_10 C0 dX7_state_21 ?_
    refine j_iload_n C0 dX7_state_24 rfl ?_
    refine r_ld_10 C0 (v := ((G 10) (a1).toNatClampNeg)) (isShip_vp hs q1) dX7_state_25 rfl ?_
    refine j_goto C0 30 dX7_state_26 (by decide) ?_
    exact j_iretE C0 rfl (by rw [vX7_state, if_neg q1]) dX7_state_30 (fun H h => by rw [sX7_state, if_neg q1]; exact h)
/-! ## paid(I)I -/
def vX7_paid (F : Nat → Int32) (G : Nat → Nat → Int32) (a1 : Int32) : Int32 := (if (vX7_isShip F G (a1)) = 0 then (0 : Int32) else ((G 13) (a1).toNatClampNeg))
def sX7_paid (F : Nat → Int32) (G : Nat → Nat → Int32) (a1 : Int32) : (Nat → Int32) × (Nat → Nat → Int32) := (if (vX7_isShip F G (a1)) = 0 then ((hu F 0 (1 : Int32)), G) else ((hu F 0 (0 : Int32)), G))
set_option maxRecDepth 100000 in
set_option maxHeartbeats 4000000 in
theorem k_X7_paid {l : Launch} (hl : l.stackTraces = false) {D : va_G} {Y : Nat → ClassId} {A : Nat → Prop} {E : State → Prop} (ad : Nat → Nat) (F : Nat → Int32) (G : Nat → Nat → Int32) (a1 : Int32) (hI : RI F G) : KM l yX7_paid cX7_paid 2 (some .int) D Y A E 2 43 0 0 [.ref (ad 0), .int (a1)] (OR D Y A ad F G) (some (.int (vX7_paid F G a1))) (OR D Y A ad (sX7_paid F G a1).1 (sX7_paid F G a1).2) := by
  refine KM_of RX7 [(0, .ref (ad 0)), (1, .int (a1))] rfl (by decide) hl (Nat.le_of_ble_eq_true rfl) rfl (lok_of rfl rfl) ?_
  intro p e s m args below meth c C0
  obtain ⟨hn, hs, hm, hb, hw, hr⟩ := id hI
  refine j_aload_n C0 dX7_paid_0 rfl ?_
  refine j_aload_n C0 dX7_paid_1 rfl ?_
  refine j_iload_n C0 dX7_paid_2 rfl ?_
  refine j_callVv C0 (k_X7_isShip hl ad F G (a1) ) mv_X7_isShip wm_X7_99 (r_recv C0) rfl rfl ⟨Nat.le_of_ble_eq_true rfl, Nat.le_of_ble_eq_true rfl⟩ (Nat.le_of_ble_eq_true rfl) ⟨Nat.le_refl _, Nat.le_refl _⟩ dX7_paid_3 ?_
  refine j_if_eq C0 13 dX7_paid_6 (by decide) (fun (q1 : (vX7_isShip F G (a1)) = 0) => ?_) (fun (q1 : ¬ ((vX7_isShip F G (a1)) = 0)) => ?_)
  ·
    refine j_iconst C0 (v := 1) dX7_paid_13 (by decide) ?_
    refine j_callVv C0 (k_X7_holds hl ad F G ((1 : Int32)) ) mv_X7_holds wm_X7_85 (r_recv C0) rfl rfl ⟨Nat.le_of_ble_eq_true rfl, Nat.le_of_ble_eq_true rfl⟩ (Nat.le_of_ble_eq_true rfl) ⟨Nat.le_refl _, Nat.le_refl _⟩ dX7_paid_14 ?_
    refine j_top (0 : Int32) (by unfold vX7_holds; decide +kernel) ?_
    show J p l e _ s m args below meth c A 2 _ (OV D Y A ad (1 : Int32) (F 1) (F 5) (F 18) (F 19) (F 20) (G 2) (G 3) (G 4) (G 6) (G 7) (G 8) (G 9) (G 10) (G 11) (G 12) (G 13) (G 14) (G 15) (G 16) (G 17) (G 21) (G 22) (G 23) (G 24) (G 25)) 0 0 17 [(0, .ref (ad 0)), (1, .int (a1))] [.int ((0 : Int32))]
    refine j_if_eq C0 29 dX7_paid_17 (by decide) (fun _ => ?_) (fun z => absurd (by decide) z)
    refine j_iconst C0 (v := 0) dX7_paid_29 (by decide) ?_
    exact j_iretE C0 rfl (by rw [vX7_paid, if_pos q1]) dX7_paid_30 (fun H h => by rw [sX7_paid, if_pos q1]; exact h)
  ·
    refine j_iconst C0 (v := 0) dX7_paid_9 (by decide) ?_
    refine j_goto C0 14 dX7_paid_10 (by decide) ?_
    refine j_callVv C0 (k_X7_holds hl ad F G ((0 : Int32)) ) mv_X7_holds wm_X7_85 (r_recv C0) rfl rfl ⟨Nat.le_of_ble_eq_true rfl, Nat.le_of_ble_eq_true rfl⟩ (Nat.le_of_ble_eq_true rfl) ⟨Nat.le_refl _, Nat.le_refl _⟩ dX7_paid_14 ?_
    refine j_top (1 : Int32) (by unfold vX7_holds; decide +kernel) ?_
    show J p l e _ s m args below meth c A 2 _ (OV D Y A ad (0 : Int32) (F 1) (F 5) (F 18) (F 19) (F 20) (G 2) (G 3) (G 4) (G 6) (G 7) (G 8) (G 9) (G 10) (G 11) (G 12) (G 13) (G 14) (G 15) (G 16) (G 17) (G 21) (G 22) (G 23) (G 24) (G 25)) 0 0 17 [(0, .ref (ad 0)), (1, .int (a1))] [.int ((1 : Int32))]
    refine j_if_eq C0 29 dX7_paid_17 (by decide) (fun z => absurd z (by decide)) (fun _ => ?_)
    refine j_aload_n C0 dX7_paid_20 rfl ?_
    refine r_gf_13 C0 dX7_paid_21 ?_
    refine j_iload_n C0 dX7_paid_24 rfl ?_
    refine r_ld_13 C0 (v := ((G 13) (a1).toNatClampNeg)) (isShip_vp hs q1) dX7_paid_25 rfl ?_
    refine j_goto C0 30 dX7_paid_26 (by decide) ?_
    exact j_iretE C0 rfl (by rw [vX7_paid, if_neg q1]) dX7_paid_30 (fun H h => by rw [sX7_paid, if_neg q1]; exact h)
/-! ## lost(I)I -/
def vX7_lost (F : Nat → Int32) (G : Nat → Nat → Int32) (a1 : Int32) : Int32 := (if (vX7_isShip F G (a1)) = 0 then (0 : Int32) else ((G 14) (a1).toNatClampNeg))
def sX7_lost (F : Nat → Int32) (G : Nat → Nat → Int32) (a1 : Int32) : (Nat → Int32) × (Nat → Nat → Int32) := (if (vX7_isShip F G (a1)) = 0 then ((hu F 0 (1 : Int32)), G) else ((hu F 0 (0 : Int32)), G))
set_option maxRecDepth 100000 in
set_option maxHeartbeats 4000000 in
theorem k_X7_lost {l : Launch} (hl : l.stackTraces = false) {D : va_G} {Y : Nat → ClassId} {A : Nat → Prop} {E : State → Prop} (ad : Nat → Nat) (F : Nat → Int32) (G : Nat → Nat → Int32) (a1 : Int32) (hI : RI F G) : KM l yX7_lost cX7_lost 2 (some .int) D Y A E 2 43 0 0 [.ref (ad 0), .int (a1)] (OR D Y A ad F G) (some (.int (vX7_lost F G a1))) (OR D Y A ad (sX7_lost F G a1).1 (sX7_lost F G a1).2) := by
  refine KM_of RX7 [(0, .ref (ad 0)), (1, .int (a1))] rfl (by decide) hl (Nat.le_of_ble_eq_true rfl) rfl (lok_of rfl rfl) ?_
  intro p e s m args below meth c C0
  obtain ⟨hn, hs, hm, hb, hw, hr⟩ := id hI
  refine j_aload_n C0 dX7_lost_0 rfl ?_
  refine j_aload_n C0 dX7_lost_1 rfl ?_
  refine j_iload_n C0 dX7_lost_2 rfl ?_
  refine j_callVv C0 (k_X7_isShip hl ad F G (a1) ) mv_X7_isShip wm_X7_99 (r_recv C0) rfl rfl ⟨Nat.le_of_ble_eq_true rfl, Nat.le_of_ble_eq_true rfl⟩ (Nat.le_of_ble_eq_true rfl) ⟨Nat.le_refl _, Nat.le_refl _⟩ dX7_lost_3 ?_
  refine j_if_eq C0 13 dX7_lost_6 (by decide) (fun (q1 : (vX7_isShip F G (a1)) = 0) => ?_) (fun (q1 : ¬ ((vX7_isShip F G (a1)) = 0)) => ?_)
  ·
    refine j_iconst C0 (v := 1) dX7_lost_13 (by decide) ?_
    refine j_callVv C0 (k_X7_holds hl ad F G ((1 : Int32)) ) mv_X7_holds wm_X7_85 (r_recv C0) rfl rfl ⟨Nat.le_of_ble_eq_true rfl, Nat.le_of_ble_eq_true rfl⟩ (Nat.le_of_ble_eq_true rfl) ⟨Nat.le_refl _, Nat.le_refl _⟩ dX7_lost_14 ?_
    refine j_top (0 : Int32) (by unfold vX7_holds; decide +kernel) ?_
    show J p l e _ s m args below meth c A 2 _ (OV D Y A ad (1 : Int32) (F 1) (F 5) (F 18) (F 19) (F 20) (G 2) (G 3) (G 4) (G 6) (G 7) (G 8) (G 9) (G 10) (G 11) (G 12) (G 13) (G 14) (G 15) (G 16) (G 17) (G 21) (G 22) (G 23) (G 24) (G 25)) 0 0 17 [(0, .ref (ad 0)), (1, .int (a1))] [.int ((0 : Int32))]
    refine j_if_eq C0 29 dX7_lost_17 (by decide) (fun _ => ?_) (fun z => absurd (by decide) z)
    refine j_iconst C0 (v := 0) dX7_lost_29 (by decide) ?_
    exact j_iretE C0 rfl (by rw [vX7_lost, if_pos q1]) dX7_lost_30 (fun H h => by rw [sX7_lost, if_pos q1]; exact h)
  ·
    refine j_iconst C0 (v := 0) dX7_lost_9 (by decide) ?_
    refine j_goto C0 14 dX7_lost_10 (by decide) ?_
    refine j_callVv C0 (k_X7_holds hl ad F G ((0 : Int32)) ) mv_X7_holds wm_X7_85 (r_recv C0) rfl rfl ⟨Nat.le_of_ble_eq_true rfl, Nat.le_of_ble_eq_true rfl⟩ (Nat.le_of_ble_eq_true rfl) ⟨Nat.le_refl _, Nat.le_refl _⟩ dX7_lost_14 ?_
    refine j_top (1 : Int32) (by unfold vX7_holds; decide +kernel) ?_
    show J p l e _ s m args below meth c A 2 _ (OV D Y A ad (0 : Int32) (F 1) (F 5) (F 18) (F 19) (F 20) (G 2) (G 3) (G 4) (G 6) (G 7) (G 8) (G 9) (G 10) (G 11) (G 12) (G 13) (G 14) (G 15) (G 16) (G 17) (G 21) (G 22) (G 23) (G 24) (G 25)) 0 0 17 [(0, .ref (ad 0)), (1, .int (a1))] [.int ((1 : Int32))]
    refine j_if_eq C0 29 dX7_lost_17 (by decide) (fun z => absurd z (by decide)) (fun _ => ?_)
    refine j_aload_n C0 dX7_lost_20 rfl ?_
    refine r_gf_14 C0 dX7_lost_21 ?_
    refine j_iload_n C0 dX7_lost_24 rfl ?_
    refine r_ld_14 C0 (v := ((G 14) (a1).toNatClampNeg)) (isShip_vp hs q1) dX7_lost_25 rfl ?_
    refine j_goto C0 30 dX7_lost_26 (by decide) ?_
    exact j_iretE C0 rfl (by rw [vX7_lost, if_neg q1]) dX7_lost_30 (fun H h => by rw [sX7_lost, if_neg q1]; exact h)
/-! ## claims(I)I -/
def vX7_claims (F : Nat → Int32) (G : Nat → Nat → Int32) (a1 : Int32) : Int32 := (if (vX7_isShip F G (a1)) = 0 then (0 : Int32) else ((G 15) (a1).toNatClampNeg))
def sX7_claims (F : Nat → Int32) (G : Nat → Nat → Int32) (a1 : Int32) : (Nat → Int32) × (Nat → Nat → Int32) := (if (vX7_isShip F G (a1)) = 0 then ((hu F 0 (1 : Int32)), G) else ((hu F 0 (0 : Int32)), G))
set_option maxRecDepth 100000 in
set_option maxHeartbeats 4000000 in
theorem k_X7_claims {l : Launch} (hl : l.stackTraces = false) {D : va_G} {Y : Nat → ClassId} {A : Nat → Prop} {E : State → Prop} (ad : Nat → Nat) (F : Nat → Int32) (G : Nat → Nat → Int32) (a1 : Int32) (hI : RI F G) : KM l yX7_claims cX7_claims 2 (some .int) D Y A E 2 43 0 0 [.ref (ad 0), .int (a1)] (OR D Y A ad F G) (some (.int (vX7_claims F G a1))) (OR D Y A ad (sX7_claims F G a1).1 (sX7_claims F G a1).2) := by
  refine KM_of RX7 [(0, .ref (ad 0)), (1, .int (a1))] rfl (by decide) hl (Nat.le_of_ble_eq_true rfl) rfl (lok_of rfl rfl) ?_
  intro p e s m args below meth c C0
  obtain ⟨hn, hs, hm, hb, hw, hr⟩ := id hI
  refine j_aload_n C0 dX7_claims_0 rfl ?_
  refine j_aload_n C0 dX7_claims_1 rfl ?_
  refine j_iload_n C0 dX7_claims_2 rfl ?_
  refine j_callVv C0 (k_X7_isShip hl ad F G (a1) ) mv_X7_isShip wm_X7_99 (r_recv C0) rfl rfl ⟨Nat.le_of_ble_eq_true rfl, Nat.le_of_ble_eq_true rfl⟩ (Nat.le_of_ble_eq_true rfl) ⟨Nat.le_refl _, Nat.le_refl _⟩ dX7_claims_3 ?_
  refine j_if_eq C0 13 dX7_claims_6 (by decide) (fun (q1 : (vX7_isShip F G (a1)) = 0) => ?_) (fun (q1 : ¬ ((vX7_isShip F G (a1)) = 0)) => ?_)
  ·
    refine j_iconst C0 (v := 1) dX7_claims_13 (by decide) ?_
    refine j_callVv C0 (k_X7_holds hl ad F G ((1 : Int32)) ) mv_X7_holds wm_X7_85 (r_recv C0) rfl rfl ⟨Nat.le_of_ble_eq_true rfl, Nat.le_of_ble_eq_true rfl⟩ (Nat.le_of_ble_eq_true rfl) ⟨Nat.le_refl _, Nat.le_refl _⟩ dX7_claims_14 ?_
    refine j_top (0 : Int32) (by unfold vX7_holds; decide +kernel) ?_
    show J p l e _ s m args below meth c A 2 _ (OV D Y A ad (1 : Int32) (F 1) (F 5) (F 18) (F 19) (F 20) (G 2) (G 3) (G 4) (G 6) (G 7) (G 8) (G 9) (G 10) (G 11) (G 12) (G 13) (G 14) (G 15) (G 16) (G 17) (G 21) (G 22) (G 23) (G 24) (G 25)) 0 0 17 [(0, .ref (ad 0)), (1, .int (a1))] [.int ((0 : Int32))]
    refine j_if_eq C0 29 dX7_claims_17 (by decide) (fun _ => ?_) (fun z => absurd (by decide) z)
    refine j_iconst C0 (v := 0) dX7_claims_29 (by decide) ?_
    exact j_iretE C0 rfl (by rw [vX7_claims, if_pos q1]) dX7_claims_30 (fun H h => by rw [sX7_claims, if_pos q1]; exact h)
  ·
    refine j_iconst C0 (v := 0) dX7_claims_9 (by decide) ?_
    refine j_goto C0 14 dX7_claims_10 (by decide) ?_
    refine j_callVv C0 (k_X7_holds hl ad F G ((0 : Int32)) ) mv_X7_holds wm_X7_85 (r_recv C0) rfl rfl ⟨Nat.le_of_ble_eq_true rfl, Nat.le_of_ble_eq_true rfl⟩ (Nat.le_of_ble_eq_true rfl) ⟨Nat.le_refl _, Nat.le_refl _⟩ dX7_claims_14 ?_
    refine j_top (1 : Int32) (by unfold vX7_holds; decide +kernel) ?_
    show J p l e _ s m args below meth c A 2 _ (OV D Y A ad (0 : Int32) (F 1) (F 5) (F 18) (F 19) (F 20) (G 2) (G 3) (G 4) (G 6) (G 7) (G 8) (G 9) (G 10) (G 11) (G 12) (G 13) (G 14) (G 15) (G 16) (G 17) (G 21) (G 22) (G 23) (G 24) (G 25)) 0 0 17 [(0, .ref (ad 0)), (1, .int (a1))] [.int ((1 : Int32))]
    refine j_if_eq C0 29 dX7_claims_17 (by decide) (fun z => absurd z (by decide)) (fun _ => ?_)
    refine j_aload_n C0 dX7_claims_20 rfl ?_
    refine r_gf_15 C0 dX7_claims_21 ?_
    refine j_iload_n C0 dX7_claims_24 rfl ?_
    refine r_ld_15 C0 (v := ((G 15) (a1).toNatClampNeg)) (isShip_vp hs q1) dX7_claims_25 rfl ?_
    refine j_goto C0 30 dX7_claims_26 (by decide) ?_
    exact j_iretE C0 rfl (by rw [vX7_claims, if_neg q1]) dX7_claims_30 (fun H h => by rw [sX7_claims, if_neg q1]; exact h)
/-! ## queue(I)I -/
def bX7_queue_26 (F : Nat → Int32) (G : Nat → Nat → Int32) (a1 : Int32) (j26 : Nat) (v26 : Int32) : Int32 := (if ((G 11) (nI j26).toNatClampNeg) = (-1 : Int32) then ((v26 + (0 : Int32))) else (if (vX7_isAhead (hu F 0 (0 : Int32)) G (nI j26) (a1)) = 0 then ((v26 + (0 : Int32))) else ((v26 + (1 : Int32)))))
def vX7_queue (F : Nat → Int32) (G : Nat → Nat → Int32) (a1 : Int32) : Int32 := (if (vX7_isShip F G (a1)) = 0 then (0 : Int32) else (if ((G 11) (a1).toNatClampNeg) = (-1 : Int32) then (-1 : Int32) else (nf (bX7_queue_26 F G a1) ((0 : Int32)) ((F 5).toNatClampNeg))))
def sX7_queue (F : Nat → Int32) (G : Nat → Nat → Int32) (a1 : Int32) : (Nat → Int32) × (Nat → Nat → Int32) := (if (vX7_isShip F G (a1)) = 0 then ((hu F 0 (1 : Int32)), G) else (if ((G 11) (a1).toNatClampNeg) = (-1 : Int32) then ((hu F 0 (0 : Int32)), G) else ((hu F 0 (0 : Int32)), G)))
set_option maxRecDepth 100000 in
set_option maxHeartbeats 4000000 in
theorem k_X7_queue {l : Launch} (hl : l.stackTraces = false) {D : va_G} {Y : Nat → ClassId} {A : Nat → Prop} {E : State → Prop} (ad : Nat → Nat) (F : Nat → Int32) (G : Nat → Nat → Int32) (a1 : Int32) (hI : RI F G) : KM l yX7_queue cX7_queue 4 (some .int) D Y A E 2 43 0 0 [.ref (ad 0), .int (a1)] (OR D Y A ad F G) (some (.int (vX7_queue F G a1))) (OR D Y A ad (sX7_queue F G a1).1 (sX7_queue F G a1).2) := by
  refine KM_of RX7 [(0, .ref (ad 0)), (1, .int (a1))] rfl (by decide) hl (Nat.le_of_ble_eq_true rfl) rfl (lok_of rfl rfl) ?_
  intro p e s m args below meth c C0
  obtain ⟨hn, hs, hm, hb, hw, hr⟩ := id hI
  have hsc := hs.cl (by decide)
  refine j_aload_n C0 dX7_queue_0 rfl ?_
  refine j_aload_n C0 dX7_queue_1 rfl ?_
  refine j_iload_n C0 dX7_queue_2 rfl ?_
  refine j_callVv C0 (k_X7_isShip hl ad F G (a1) ) mv_X7_isShip wm_X7_99 (r_recv C0) rfl rfl ⟨Nat.le_of_ble_eq_true rfl, Nat.le_of_ble_eq_true rfl⟩ (Nat.le_of_ble_eq_true rfl) ⟨Nat.le_refl _, Nat.le_refl _⟩ dX7_queue_3 ?_
  refine j_if_eq C0 13 dX7_queue_6 (by decide) (fun (q1 : (vX7_isShip F G (a1)) = 0) => ?_) (fun (q1 : ¬ ((vX7_isShip F G (a1)) = 0)) => ?_)
  ·
    refine j_iconst C0 (v := 1) dX7_queue_13 (by decide) ?_
    refine j_callVv C0 (k_X7_holds hl ad F G ((1 : Int32)) ) mv_X7_holds wm_X7_85 (r_recv C0) rfl rfl ⟨Nat.le_of_ble_eq_true rfl, Nat.le_of_ble_eq_true rfl⟩ (Nat.le_of_ble_eq_true rfl) ⟨Nat.le_refl _, Nat.le_refl _⟩ dX7_queue_14 ?_
    refine j_top (0 : Int32) (by unfold vX7_holds; decide +kernel) ?_
    show J p l e _ s m args below meth c A 4 _ (OV D Y A ad (1 : Int32) (F 1) (F 5) (F 18) (F 19) (F 20) (G 2) (G 3) (G 4) (G 6) (G 7) (G 8) (G 9) (G 10) (G 11) (G 12) (G 13) (G 14) (G 15) (G 16) (G 17) (G 21) (G 22) (G 23) (G 24) (G 25)) 0 0 17 [(0, .ref (ad 0)), (1, .int (a1))] [.int ((0 : Int32))]
    refine j_if_ne C0 22 dX7_queue_17 (by decide) (fun z => absurd (by decide) z) (fun _ => ?_)
    refine j_iconst C0 (v := 0) dX7_queue_20 (by decide) ?_
    exact j_iretE C0 rfl (by rw [vX7_queue, if_pos q1]) dX7_queue_21 (fun H h => by rw [sX7_queue, if_pos q1]; exact h)
  ·
    refine j_iconst C0 (v := 0) dX7_queue_9 (by decide) ?_
    refine j_goto C0 14 dX7_queue_10 (by decide) ?_
    refine j_callVv C0 (k_X7_holds hl ad F G ((0 : Int32)) ) mv_X7_holds wm_X7_85 (r_recv C0) rfl rfl ⟨Nat.le_of_ble_eq_true rfl, Nat.le_of_ble_eq_true rfl⟩ (Nat.le_of_ble_eq_true rfl) ⟨Nat.le_refl _, Nat.le_refl _⟩ dX7_queue_14 ?_
    refine j_top (1 : Int32) (by unfold vX7_holds; decide +kernel) ?_
    show J p l e _ s m args below meth c A 4 _ (OV D Y A ad (0 : Int32) (F 1) (F 5) (F 18) (F 19) (F 20) (G 2) (G 3) (G 4) (G 6) (G 7) (G 8) (G 9) (G 10) (G 11) (G 12) (G 13) (G 14) (G 15) (G 16) (G 17) (G 21) (G 22) (G 23) (G 24) (G 25)) 0 0 17 [(0, .ref (ad 0)), (1, .int (a1))] [.int ((1 : Int32))]
    refine j_if_ne C0 22 dX7_queue_17 (by decide) (fun _ => ?_) (fun z => absurd z (by decide))
    refine j_iconst C0 (v := 0) dX7_queue_22 (by decide) ?_
    refine j_istore_n C0 (L' := [(0, .ref (ad 0)), (1, .int (a1)), (2, .int ((0 : Int32)))]) dX7_queue_23 (by decide) rfl ?_
    refine j_iconst C0 (v := 0) dX7_queue_24 (by decide) ?_
    refine j_istore_n C0 (L' := [(0, .ref (ad 0)), (1, .int (a1)), (2, .int ((0 : Int32))), (3, .int ((0 : Int32)))]) dX7_queue_25 (by decide) rfl ?_
    refine hb_lp (P := fun (j : Nat) (v : Int32) => J p l e _ s m args below meth c A 4 _ (OV D Y A ad (0 : Int32) (F 1) (F 5) (F 18) (F 19) (F 20) (G 2) (G 3) (G 4) (G 6) (G 7) (G 8) (G 9) (G 10) (G 11) (G 12) (G 13) (G 14) (G 15) (G 16) (G 17) (G 21) (G 22) (G 23) (G 24) (G 25)) 0 0 26 [(0, .ref (ad 0)), (1, .int (a1)), (2, .int (v)), (3, .int (nI j))] []) (bX7_queue_26 F G a1) ((0 : Int32)) ((F 5).toNatClampNeg) ?_ ?_
    ·
      intro j26 hj26 K26
      generalize nf (bX7_queue_26 F G a1) ((0 : Int32)) j26 = v26 at K26 ⊢
      show J p l e _ s m args below meth c A 4 _ (OV D Y A ad (0 : Int32) (F 1) (F 5) (F 18) (F 19) (F 20) (G 2) (G 3) (G 4) (G 6) (G 7) (G 8) (G 9) (G 10) (G 11) (G 12) (G 13) (G 14) (G 15) (G 16) (G 17) (G 21) (G 22) (G 23) (G 24) (G 25)) 0 0 26 [(0, .ref (ad 0)), (1, .int (a1)), (2, .int (v26)), (3, .int (nI j26))] []
      replace K26 : J p l e _ s m args below meth c A 4 _ (OV D Y A ad (0 : Int32) (F 1) (F 5) (F 18) (F 19) (F 20) (G 2) (G 3) (G 4) (G 6) (G 7) (G 8) (G 9) (G 10) (G 11) (G 12) (G 13) (G 14) (G 15) (G 16) (G 17) (G 21) (G 22) (G 23) (G 24) (G 25)) 0 0 26 [(0, .ref (ad 0)), (1, .int (a1)), (2, .int ((bX7_queue_26 F G a1 j26 v26))), (3, .int (nI (j26 + 1)))] [] := K26
      refine j_iload_n C0 dX7_queue_26 rfl ?_
      refine j_aload_n C0 dX7_queue_27 rfl ?_
      refine r_gf_5 C0 (v := (F 5)) dX7_queue_28 rfl ?_
      refine j_icmp_ge C0 67 dX7_queue_31 (by decide) (fun z => absurd z (cl_lt rfl hj26)) (fun _ => ?_)
      refine j_iload_n C0 dX7_queue_34 rfl ?_
      refine j_aload_n C0 dX7_queue_35 rfl ?_
      refine r_gf_11 C0 dX7_queue_36 ?_
      refine j_iload_n C0 dX7_queue_39 rfl ?_
      refine r_ld_11 C0 (v := ((G 11) (nI j26).toNatClampNeg)) (vp_nI (by omega) (by decide)) dX7_queue_40 rfl ?_
      refine j_iconst C0 (v := -1) dX7_queue_41 (by decide) ?_
      refine j_icmp_eq C0 58 dX7_queue_42 (by decide) (fun (q5 : ((G 11) (nI j26).toNatClampNeg) = (-1 : Int32)) => ?_) (fun (q5 : ¬ (((G 11) (nI j26).toNatClampNeg) = (-1 : Int32))) => ?_)
      ·
        refine j_iconst C0 (v := 0) dX7_queue_58 (by decide) ?_
        refine j_iadd C0 dX7_queue_59 ?_
        refine j_istore_n C0 (L' := [(0, .ref (ad 0)), (1, .int (a1)), (2, .int ((v26 + (0 : Int32)))), (3, .int (nI j26))]) dX7_queue_60 (by decide) rfl ?_
        refine j_iinc C0 (v := nI (j26 + 1)) (L' := [(0, .ref (ad 0)), (1, .int (a1)), (2, .int ((v26 + (0 : Int32)))), (3, .int (nI (j26 + 1)))]) dX7_queue_61 rfl (nI_inc j26) (by decide) rfl ?_
        refine j_goto C0 26 dX7_queue_64 (by decide) ?_
        rw [bX7_queue_26, if_pos q5] at K26
        exact K26
      ·
        refine j_aload_n C0 dX7_queue_45 rfl ?_
        refine j_iload_n C0 dX7_queue_46 rfl ?_
        refine j_iload_n C0 dX7_queue_47 rfl ?_
        refine j_callVv C0 (k_X7_isAhead hl ad (hu F 0 (0 : Int32)) G (nI j26) (a1) (vp_nI (by omega) (by decide)) (isShip_vp hs q1)) mv_X7_isAhead wm_X7_110 (r_recv C0) rfl rfl ⟨Nat.le_of_ble_eq_true rfl, Nat.le_of_ble_eq_true rfl⟩ (Nat.le_of_ble_eq_true rfl) ⟨Nat.le_refl _, Nat.le_refl _⟩ dX7_queue_48 ?_
        refine j_if_eq C0 58 dX7_queue_51 (by decide) (fun (q6 : (vX7_isAhead (hu F 0 (0 : Int32)) G (nI j26) (a1)) = 0) => ?_) (fun (q6 : ¬ ((vX7_isAhead (hu F 0 (0 : Int32)) G (nI j26) (a1)) = 0)) => ?_)
        ·
          refine j_iconst C0 (v := 0) dX7_queue_58 (by decide) ?_
          refine j_iadd C0 dX7_queue_59 ?_
          refine j_istore_n C0 (L' := [(0, .ref (ad 0)), (1, .int (a1)), (2, .int ((v26 + (0 : Int32)))), (3, .int (nI j26))]) dX7_queue_60 (by decide) rfl ?_
          refine j_iinc C0 (v := nI (j26 + 1)) (L' := [(0, .ref (ad 0)), (1, .int (a1)), (2, .int ((v26 + (0 : Int32)))), (3, .int (nI (j26 + 1)))]) dX7_queue_61 rfl (nI_inc j26) (by decide) rfl ?_
          refine j_goto C0 26 dX7_queue_64 (by decide) ?_
          rw [bX7_queue_26, if_neg q5, if_pos q6] at K26
          exact K26
        ·
          refine j_iconst C0 (v := 1) dX7_queue_54 (by decide) ?_
          refine j_goto C0 59 dX7_queue_55 (by decide) ?_
          refine j_iadd C0 dX7_queue_59 ?_
          refine j_istore_n C0 (L' := [(0, .ref (ad 0)), (1, .int (a1)), (2, .int ((v26 + (1 : Int32)))), (3, .int (nI j26))]) dX7_queue_60 (by decide) rfl ?_
          refine j_iinc C0 (v := nI (j26 + 1)) (L' := [(0, .ref (ad 0)), (1, .int (a1)), (2, .int ((v26 + (1 : Int32)))), (3, .int (nI (j26 + 1)))]) dX7_queue_61 rfl (nI_inc j26) (by decide) rfl ?_
          refine j_goto C0 26 dX7_queue_64 (by decide) ?_
          rw [bX7_queue_26, if_neg q5, if_neg q6] at K26
          exact K26
    ·
      show J p l e _ s m args below meth c A 4 _ (OV D Y A ad (0 : Int32) (F 1) (F 5) (F 18) (F 19) (F 20) (G 2) (G 3) (G 4) (G 6) (G 7) (G 8) (G 9) (G 10) (G 11) (G 12) (G 13) (G 14) (G 15) (G 16) (G 17) (G 21) (G 22) (G 23) (G 24) (G 25)) 0 0 26 [(0, .ref (ad 0)), (1, .int (a1)), (2, .int ((nf (bX7_queue_26 F G a1) ((0 : Int32)) ((F 5).toNatClampNeg)))), (3, .int (nI (((F 5).toNatClampNeg))))] []
      refine j_iload_n C0 dX7_queue_26 rfl ?_
      refine j_aload_n C0 dX7_queue_27 rfl ?_
      refine r_gf_5 C0 (v := (F 5)) dX7_queue_28 rfl ?_
      refine j_icmp_ge C0 67 dX7_queue_31 (by decide) (fun _ => ?_) (fun z => absurd (cl_le rfl) z)
      refine j_aload_n C0 dX7_queue_67 rfl ?_
      refine r_gf_11 C0 dX7_queue_68 ?_
      refine j_iload_n C0 dX7_queue_71 rfl ?_
      refine r_ld_11 C0 (v := ((G 11) (a1).toNatClampNeg)) (isShip_vp hs q1) dX7_queue_72 rfl ?_
      refine j_iconst C0 (v := -1) dX7_queue_73 (by decide) ?_
      refine j_icmp_ne C0 81 dX7_queue_74 (by decide) (fun (q8 : ¬ (((G 11) (a1).toNatClampNeg) = (-1 : Int32))) => ?_) (fun (q8 : ((G 11) (a1).toNatClampNeg) = (-1 : Int32)) => ?_)
      ·
        refine j_iload_n C0 dX7_queue_81 rfl ?_
        exact j_iretE C0 rfl (by rw [vX7_queue, if_neg q1, if_neg q8]) dX7_queue_82 (fun H h => by rw [sX7_queue, if_neg q1, if_neg q8]; exact h)
      ·
        refine j_iconst C0 (v := -1) dX7_queue_77 (by decide) ?_
        refine j_goto C0 82 dX7_queue_78 (by decide) ?_
        exact j_iretE C0 rfl (by rw [vX7_queue, if_neg q1, if_pos q8]) dX7_queue_82 (fun H h => by rw [sX7_queue, if_neg q1, if_pos q8]; exact h)
theorem placeOf_in {F : Nat → Int32} {G : Nat → Nat → Int32} {a : Int32} (h : ∃ j, j < 6 ∧ G 16 j = a) : vp_in (vX7_placeOf F G a) 6 := by
  obtain ⟨j, hj, he⟩ := h
  have key : ∀ N, N ≤ 6 → (j < N → vp_in (nf (bX7_placeOf_4 F G a) (-1 : Int32) N) 6) := by
    intro N
    induction N with
    | zero => intro _ h; omega
    | succ n ih =>
      intro hn hjn
      rw [nf, bX7_placeOf_4]
      split
      · exact vp_in_nI (by omega) (by decide)
      · rename_i hq
        rw [nI_clamp (by omega)] at hq
        refine ih (by omega) ?_
        rcases Nat.lt_or_ge j n with q | q
        · exact q
        · have : j = n := by omega
          subst this
          exact absurd he hq
  exact key 6 (by decide) hj
/-! ## swap(II)I -/
def vX7_swap (F : Nat → Int32) (G : Nat → Nat → Int32) (a1 : Int32) (a2 : Int32) : Int32 := (if (vX7_isPilot (a1)) = 0 then (0 : Int32) else (if (vX7_isPilot (a2)) = 0 then (0 : Int32) else (if a1 = a2 then (0 : Int32) else (vX7_placeOf (hu F 0 (0 : Int32)) G (a2)))))
def sX7_swap (F : Nat → Int32) (G : Nat → Nat → Int32) (a1 : Int32) (a2 : Int32) : (Nat → Int32) × (Nat → Nat → Int32) := (if (vX7_isPilot (a1)) = 0 then ((hu F 0 (1 : Int32)), G) else (if (vX7_isPilot (a2)) = 0 then ((hu F 0 (1 : Int32)), G) else (if a1 = a2 then ((hu F 0 (2 : Int32)), G) else ((hu F 0 (0 : Int32)), (hu G 16 (upd (upd (G 16) ((vX7_placeOf (hu F 0 (0 : Int32)) G (a1))).toNatClampNeg (a2)) ((vX7_placeOf (hu F 0 (0 : Int32)) G (a2))).toNatClampNeg (a1)))))))
set_option maxRecDepth 100000 in
set_option maxHeartbeats 4000000 in
theorem k_X7_swap {l : Launch} (hl : l.stackTraces = false) {D : va_G} {Y : Nat → ClassId} {A : Nat → Prop} {E : State → Prop} (ad : Nat → Nat) (F : Nat → Int32) (G : Nat → Nat → Int32) (a1 : Int32) (a2 : Int32) (hI : RI F G) (hpm : ∀ a, vp_in a 6 → ∃ j, j < 6 ∧ G 16 j = a) : KM l yX7_swap cX7_swap 5 (some .int) D Y A E 2 42 0 0 [.ref (ad 0), .int (a1), .int (a2)] (OR D Y A ad F G) (some (.int (vX7_swap F G a1 a2))) (OR D Y A ad (sX7_swap F G a1 a2).1 (sX7_swap F G a1 a2).2) := by
  refine KM_of RX7 [(0, .ref (ad 0)), (1, .int (a1)), (2, .int (a2))] rfl (by decide) hl (Nat.le_of_ble_eq_true rfl) rfl (lok_of rfl rfl) ?_
  intro p e s m args below meth c C0
  obtain ⟨hn, hs, hm, hb, hw, hr⟩ := id hI
  refine j_aload_n C0 dX7_swap_0 rfl ?_
  refine j_iload_n C0 dX7_swap_1 rfl ?_
  refine j_callSv C0 (k_X7_isPilot hl (a1) ) ms_X7_isPilot wm_X7_116 rfl rfl ⟨Nat.le_of_ble_eq_true rfl, Nat.le_of_ble_eq_true rfl⟩ (Nat.le_of_ble_eq_true rfl) ⟨Nat.le_refl _, Nat.le_refl _⟩ dX7_swap_2 ?_
  refine j_if_eq C0 15 dX7_swap_5 (by decide) (fun (q1 : (vX7_isPilot (a1)) = 0) => ?_) (fun (q1 : ¬ ((vX7_isPilot (a1)) = 0)) => ?_)
  ·
    refine j_iconst C0 (v := 1) dX7_swap_15 (by decide) ?_
    refine j_goto C0 29 dX7_swap_16 (by decide) ?_
    refine j_callVv C0 (k_X7_holds hl ad F G ((1 : Int32)) ) mv_X7_holds wm_X7_85 (r_recv C0) rfl rfl ⟨Nat.le_of_ble_eq_true rfl, Nat.le_of_ble_eq_true rfl⟩ (Nat.le_of_ble_eq_true rfl) ⟨Nat.le_refl _, Nat.le_refl _⟩ dX7_swap_29 ?_
    refine j_top (0 : Int32) (by unfold vX7_holds; decide +kernel) ?_
    show J p l e _ s m args below meth c A 5 _ (OV D Y A ad (1 : Int32) (F 1) (F 5) (F 18) (F 19) (F 20) (G 2) (G 3) (G 4) (G 6) (G 7) (G 8) (G 9) (G 10) (G 11) (G 12) (G 13) (G 14) (G 15) (G 16) (G 17) (G 21) (G 22) (G 23) (G 24) (G 25)) 0 0 32 [(0, .ref (ad 0)), (1, .int (a1)), (2, .int (a2))] [.int ((0 : Int32))]
    refine j_if_ne C0 37 dX7_swap_32 (by decide) (fun z => absurd (by decide) z) (fun _ => ?_)
    refine j_iconst C0 (v := 0) dX7_swap_35 (by decide) ?_
    exact j_iretE C0 rfl (by rw [vX7_swap, if_pos q1]) dX7_swap_36 (fun H h => by rw [sX7_swap, if_pos q1]; exact h)
  ·
    refine j_iload_n C0 dX7_swap_8 rfl ?_
    refine j_callSv C0 (k_X7_isPilot hl (a2) ) ms_X7_isPilot wm_X7_116 rfl rfl ⟨Nat.le_of_ble_eq_true rfl, Nat.le_of_ble_eq_true rfl⟩ (Nat.le_of_ble_eq_true rfl) ⟨Nat.le_refl _, Nat.le_refl _⟩ dX7_swap_9 ?_
    refine j_if_ne C0 19 dX7_swap_12 (by decide) (fun (q3 : ¬ ((vX7_isPilot (a2)) = 0)) => ?_) (fun (q3 : (vX7_isPilot (a2)) = 0) => ?_)
    ·
      refine j_iload_n C0 dX7_swap_19 rfl ?_
      refine j_iload_n C0 dX7_swap_20 rfl ?_
      refine j_icmp_ne C0 28 dX7_swap_21 (by decide) (fun (q4 : ¬ (a1 = a2)) => ?_) (fun (q4 : a1 = a2) => ?_)
      ·
        refine j_iconst C0 (v := 0) dX7_swap_28 (by decide) ?_
        refine j_callVv C0 (k_X7_holds hl ad F G ((0 : Int32)) ) mv_X7_holds wm_X7_85 (r_recv C0) rfl rfl ⟨Nat.le_of_ble_eq_true rfl, Nat.le_of_ble_eq_true rfl⟩ (Nat.le_of_ble_eq_true rfl) ⟨Nat.le_refl _, Nat.le_refl _⟩ dX7_swap_29 ?_
        refine j_top (1 : Int32) (by unfold vX7_holds; decide +kernel) ?_
        show J p l e _ s m args below meth c A 5 _ (OV D Y A ad (0 : Int32) (F 1) (F 5) (F 18) (F 19) (F 20) (G 2) (G 3) (G 4) (G 6) (G 7) (G 8) (G 9) (G 10) (G 11) (G 12) (G 13) (G 14) (G 15) (G 16) (G 17) (G 21) (G 22) (G 23) (G 24) (G 25)) 0 0 32 [(0, .ref (ad 0)), (1, .int (a1)), (2, .int (a2))] [.int ((1 : Int32))]
        refine j_if_ne C0 37 dX7_swap_32 (by decide) (fun _ => ?_) (fun z => absurd z (by decide))
        refine j_aload_n C0 dX7_swap_37 rfl ?_
        refine j_iload_n C0 dX7_swap_38 rfl ?_
        refine j_callVv C0 (k_X7_placeOf hl ad (hu F 0 (0 : Int32)) G (a1) ) mv_X7_placeOf wm_X7_119 (r_recv C0) rfl rfl ⟨Nat.le_of_ble_eq_true rfl, Nat.le_of_ble_eq_true rfl⟩ (Nat.le_of_ble_eq_true rfl) ⟨Nat.le_refl _, Nat.le_refl _⟩ dX7_swap_39 ?_
        refine j_istore_n C0 (L' := [(0, .ref (ad 0)), (1, .int (a1)), (2, .int (a2)), (3, .int ((vX7_placeOf (hu F 0 (0 : Int32)) G (a1))))]) dX7_swap_42 (by decide) rfl ?_
        refine j_aload_n C0 dX7_swap_43 rfl ?_
        refine j_iload_n C0 dX7_swap_44 rfl ?_
        refine j_callVv C0 (k_X7_placeOf hl ad (hu F 0 (0 : Int32)) G (a2) ) mv_X7_placeOf wm_X7_119 (r_recv C0) rfl rfl ⟨Nat.le_of_ble_eq_true rfl, Nat.le_of_ble_eq_true rfl⟩ (Nat.le_of_ble_eq_true rfl) ⟨Nat.le_refl _, Nat.le_refl _⟩ dX7_swap_45 ?_
        refine j_istore C0 (L' := [(0, .ref (ad 0)), (1, .int (a1)), (2, .int (a2)), (3, .int ((vX7_placeOf (hu F 0 (0 : Int32)) G (a1)))), (4, .int ((vX7_placeOf (hu F 0 (0 : Int32)) G (a2))))]) dX7_swap_48 (by decide) rfl ?_
        refine j_aload_n C0 dX7_swap_50 rfl ?_
        refine r_gf_16 C0 dX7_swap_51 ?_
        refine j_iload_n C0 dX7_swap_54 rfl ?_
        refine j_iload_n C0 dX7_swap_55 rfl ?_
        refine r_st_16 C0 (placeOf_in (hpm _ (isPilot_vp q1))) dX7_swap_56 ?_
        refine j_aload_n C0 dX7_swap_57 rfl ?_
        refine r_gf_16 C0 dX7_swap_58 ?_
        refine j_iload C0 dX7_swap_61 rfl ?_
        refine j_iload_n C0 dX7_swap_63 rfl ?_
        refine r_st_16 C0 (placeOf_in (hpm _ (isPilot_vp q3))) dX7_swap_64 ?_
        refine j_iload C0 dX7_swap_65 rfl ?_
        exact j_iretE C0 rfl (by rw [vX7_swap, if_neg q1, if_neg q3, if_neg q4]) dX7_swap_67 (fun H h => by rw [sX7_swap, if_neg q1, if_neg q3, if_neg q4]; exact h)
      ·
        refine j_iconst C0 (v := 2) dX7_swap_24 (by decide) ?_
        refine j_goto C0 29 dX7_swap_25 (by decide) ?_
        refine j_callVv C0 (k_X7_holds hl ad F G ((2 : Int32)) ) mv_X7_holds wm_X7_85 (r_recv C0) rfl rfl ⟨Nat.le_of_ble_eq_true rfl, Nat.le_of_ble_eq_true rfl⟩ (Nat.le_of_ble_eq_true rfl) ⟨Nat.le_refl _, Nat.le_refl _⟩ dX7_swap_29 ?_
        refine j_top (0 : Int32) (by unfold vX7_holds; decide +kernel) ?_
        show J p l e _ s m args below meth c A 5 _ (OV D Y A ad (2 : Int32) (F 1) (F 5) (F 18) (F 19) (F 20) (G 2) (G 3) (G 4) (G 6) (G 7) (G 8) (G 9) (G 10) (G 11) (G 12) (G 13) (G 14) (G 15) (G 16) (G 17) (G 21) (G 22) (G 23) (G 24) (G 25)) 0 0 32 [(0, .ref (ad 0)), (1, .int (a1)), (2, .int (a2))] [.int ((0 : Int32))]
        refine j_if_ne C0 37 dX7_swap_32 (by decide) (fun z => absurd (by decide) z) (fun _ => ?_)
        refine j_iconst C0 (v := 0) dX7_swap_35 (by decide) ?_
        exact j_iretE C0 rfl (by rw [vX7_swap, if_neg q1, if_neg q3, if_pos q4]) dX7_swap_36 (fun H h => by rw [sX7_swap, if_neg q1, if_neg q3, if_pos q4]; exact h)
    ·
      refine j_iconst C0 (v := 1) dX7_swap_15 (by decide) ?_
      refine j_goto C0 29 dX7_swap_16 (by decide) ?_
      refine j_callVv C0 (k_X7_holds hl ad F G ((1 : Int32)) ) mv_X7_holds wm_X7_85 (r_recv C0) rfl rfl ⟨Nat.le_of_ble_eq_true rfl, Nat.le_of_ble_eq_true rfl⟩ (Nat.le_of_ble_eq_true rfl) ⟨Nat.le_refl _, Nat.le_refl _⟩ dX7_swap_29 ?_
      refine j_top (0 : Int32) (by unfold vX7_holds; decide +kernel) ?_
      show J p l e _ s m args below meth c A 5 _ (OV D Y A ad (1 : Int32) (F 1) (F 5) (F 18) (F 19) (F 20) (G 2) (G 3) (G 4) (G 6) (G 7) (G 8) (G 9) (G 10) (G 11) (G 12) (G 13) (G 14) (G 15) (G 16) (G 17) (G 21) (G 22) (G 23) (G 24) (G 25)) 0 0 32 [(0, .ref (ad 0)), (1, .int (a1)), (2, .int (a2))] [.int ((0 : Int32))]
      refine j_if_ne C0 37 dX7_swap_32 (by decide) (fun z => absurd (by decide) z) (fun _ => ?_)
      refine j_iconst C0 (v := 0) dX7_swap_35 (by decide) ?_
      exact j_iretE C0 rfl (by rw [vX7_swap, if_neg q1, if_pos q3]) dX7_swap_36 (fun H h => by rw [sX7_swap, if_neg q1, if_pos q3]; exact h)
/-! ## rota(I)I -/
def vX7_rota (F : Nat → Int32) (G : Nat → Nat → Int32) (a1 : Int32) : Int32 := (if (vX7_isPilot (a1)) = 0 then (0 : Int32) else ((G 16) (a1).toNatClampNeg))
def sX7_rota (F : Nat → Int32) (G : Nat → Nat → Int32) (a1 : Int32) : (Nat → Int32) × (Nat → Nat → Int32) := (if (vX7_isPilot (a1)) = 0 then ((hu F 0 (1 : Int32)), G) else ((hu F 0 (0 : Int32)), G))
set_option maxRecDepth 100000 in
set_option maxHeartbeats 4000000 in
theorem k_X7_rota {l : Launch} (hl : l.stackTraces = false) {D : va_G} {Y : Nat → ClassId} {A : Nat → Prop} {E : State → Prop} (ad : Nat → Nat) (F : Nat → Int32) (G : Nat → Nat → Int32) (a1 : Int32) (hI : RI F G) : KM l yX7_rota cX7_rota 2 (some .int) D Y A E 2 42 0 0 [.ref (ad 0), .int (a1)] (OR D Y A ad F G) (some (.int (vX7_rota F G a1))) (OR D Y A ad (sX7_rota F G a1).1 (sX7_rota F G a1).2) := by
  refine KM_of RX7 [(0, .ref (ad 0)), (1, .int (a1))] rfl (by decide) hl (Nat.le_of_ble_eq_true rfl) rfl (lok_of rfl rfl) ?_
  intro p e s m args below meth c C0
  obtain ⟨hn, hs, hm, hb, hw, hr⟩ := id hI
  refine j_aload_n C0 dX7_rota_0 rfl ?_
  refine j_iload_n C0 dX7_rota_1 rfl ?_
  refine j_callSv C0 (k_X7_isPilot hl (a1) ) ms_X7_isPilot wm_X7_116 rfl rfl ⟨Nat.le_of_ble_eq_true rfl, Nat.le_of_ble_eq_true rfl⟩ (Nat.le_of_ble_eq_true rfl) ⟨Nat.le_refl _, Nat.le_refl _⟩ dX7_rota_2 ?_
  refine j_if_eq C0 12 dX7_rota_5 (by decide) (fun (q1 : (vX7_isPilot (a1)) = 0) => ?_) (fun (q1 : ¬ ((vX7_isPilot (a1)) = 0)) => ?_)
  ·
    refine j_iconst C0 (v := 1) dX7_rota_12 (by decide) ?_
    refine j_callVv C0 (k_X7_holds hl ad F G ((1 : Int32)) ) mv_X7_holds wm_X7_85 (r_recv C0) rfl rfl ⟨Nat.le_of_ble_eq_true rfl, Nat.le_of_ble_eq_true rfl⟩ (Nat.le_of_ble_eq_true rfl) ⟨Nat.le_refl _, Nat.le_refl _⟩ dX7_rota_13 ?_
    refine j_top (0 : Int32) (by unfold vX7_holds; decide +kernel) ?_
    show J p l e _ s m args below meth c A 2 _ (OV D Y A ad (1 : Int32) (F 1) (F 5) (F 18) (F 19) (F 20) (G 2) (G 3) (G 4) (G 6) (G 7) (G 8) (G 9) (G 10) (G 11) (G 12) (G 13) (G 14) (G 15) (G 16) (G 17) (G 21) (G 22) (G 23) (G 24) (G 25)) 0 0 16 [(0, .ref (ad 0)), (1, .int (a1))] [.int ((0 : Int32))]
    refine j_if_eq C0 28 dX7_rota_16 (by decide) (fun _ => ?_) (fun z => absurd (by decide) z)
    refine j_iconst C0 (v := 0) dX7_rota_28 (by decide) ?_
    exact j_iretE C0 rfl (by rw [vX7_rota, if_pos q1]) dX7_rota_29 (fun H h => by rw [sX7_rota, if_pos q1]; exact h)
  ·
    refine j_iconst C0 (v := 0) dX7_rota_8 (by decide) ?_
    refine j_goto C0 13 dX7_rota_9 (by decide) ?_
    refine j_callVv C0 (k_X7_holds hl ad F G ((0 : Int32)) ) mv_X7_holds wm_X7_85 (r_recv C0) rfl rfl ⟨Nat.le_of_ble_eq_true rfl, Nat.le_of_ble_eq_true rfl⟩ (Nat.le_of_ble_eq_true rfl) ⟨Nat.le_refl _, Nat.le_refl _⟩ dX7_rota_13 ?_
    refine j_top (1 : Int32) (by unfold vX7_holds; decide +kernel) ?_
    show J p l e _ s m args below meth c A 2 _ (OV D Y A ad (0 : Int32) (F 1) (F 5) (F 18) (F 19) (F 20) (G 2) (G 3) (G 4) (G 6) (G 7) (G 8) (G 9) (G 10) (G 11) (G 12) (G 13) (G 14) (G 15) (G 16) (G 17) (G 21) (G 22) (G 23) (G 24) (G 25)) 0 0 16 [(0, .ref (ad 0)), (1, .int (a1))] [.int ((1 : Int32))]
    refine j_if_eq C0 28 dX7_rota_16 (by decide) (fun z => absurd z (by decide)) (fun _ => ?_)
    refine j_aload_n C0 dX7_rota_19 rfl ?_
    refine r_gf_16 C0 dX7_rota_20 ?_
    refine j_iload_n C0 dX7_rota_23 rfl ?_
    refine r_ld_16 C0 (v := ((G 16) (a1).toNatClampNeg)) (isPilot_vp q1) dX7_rota_24 rfl ?_
    refine j_goto C0 29 dX7_rota_25 (by decide) ?_
    exact j_iretE C0 rfl (by rw [vX7_rota, if_neg q1]) dX7_rota_29 (fun H h => by rw [sX7_rota, if_neg q1]; exact h)
/-! ## earned(I)I -/
def vX7_earned (F : Nat → Int32) (G : Nat → Nat → Int32) (a1 : Int32) : Int32 := (if (vX7_isPilot (a1)) = 0 then (0 : Int32) else ((G 17) (a1).toNatClampNeg))
def sX7_earned (F : Nat → Int32) (G : Nat → Nat → Int32) (a1 : Int32) : (Nat → Int32) × (Nat → Nat → Int32) := (if (vX7_isPilot (a1)) = 0 then ((hu F 0 (1 : Int32)), G) else ((hu F 0 (0 : Int32)), G))
set_option maxRecDepth 100000 in
set_option maxHeartbeats 4000000 in
theorem k_X7_earned {l : Launch} (hl : l.stackTraces = false) {D : va_G} {Y : Nat → ClassId} {A : Nat → Prop} {E : State → Prop} (ad : Nat → Nat) (F : Nat → Int32) (G : Nat → Nat → Int32) (a1 : Int32) (hI : RI F G) : KM l yX7_earned cX7_earned 2 (some .int) D Y A E 2 42 0 0 [.ref (ad 0), .int (a1)] (OR D Y A ad F G) (some (.int (vX7_earned F G a1))) (OR D Y A ad (sX7_earned F G a1).1 (sX7_earned F G a1).2) := by
  refine KM_of RX7 [(0, .ref (ad 0)), (1, .int (a1))] rfl (by decide) hl (Nat.le_of_ble_eq_true rfl) rfl (lok_of rfl rfl) ?_
  intro p e s m args below meth c C0
  obtain ⟨hn, hs, hm, hb, hw, hr⟩ := id hI
  refine j_aload_n C0 dX7_earned_0 rfl ?_
  refine j_iload_n C0 dX7_earned_1 rfl ?_
  refine j_callSv C0 (k_X7_isPilot hl (a1) ) ms_X7_isPilot wm_X7_116 rfl rfl ⟨Nat.le_of_ble_eq_true rfl, Nat.le_of_ble_eq_true rfl⟩ (Nat.le_of_ble_eq_true rfl) ⟨Nat.le_refl _, Nat.le_refl _⟩ dX7_earned_2 ?_
  refine j_if_eq C0 12 dX7_earned_5 (by decide) (fun (q1 : (vX7_isPilot (a1)) = 0) => ?_) (fun (q1 : ¬ ((vX7_isPilot (a1)) = 0)) => ?_)
  ·
    refine j_iconst C0 (v := 1) dX7_earned_12 (by decide) ?_
    refine j_callVv C0 (k_X7_holds hl ad F G ((1 : Int32)) ) mv_X7_holds wm_X7_85 (r_recv C0) rfl rfl ⟨Nat.le_of_ble_eq_true rfl, Nat.le_of_ble_eq_true rfl⟩ (Nat.le_of_ble_eq_true rfl) ⟨Nat.le_refl _, Nat.le_refl _⟩ dX7_earned_13 ?_
    refine j_top (0 : Int32) (by unfold vX7_holds; decide +kernel) ?_
    show J p l e _ s m args below meth c A 2 _ (OV D Y A ad (1 : Int32) (F 1) (F 5) (F 18) (F 19) (F 20) (G 2) (G 3) (G 4) (G 6) (G 7) (G 8) (G 9) (G 10) (G 11) (G 12) (G 13) (G 14) (G 15) (G 16) (G 17) (G 21) (G 22) (G 23) (G 24) (G 25)) 0 0 16 [(0, .ref (ad 0)), (1, .int (a1))] [.int ((0 : Int32))]
    refine j_if_eq C0 28 dX7_earned_16 (by decide) (fun _ => ?_) (fun z => absurd (by decide) z)
    refine j_iconst C0 (v := 0) dX7_earned_28 (by decide) ?_
    exact j_iretE C0 rfl (by rw [vX7_earned, if_pos q1]) dX7_earned_29 (fun H h => by rw [sX7_earned, if_pos q1]; exact h)
  ·
    refine j_iconst C0 (v := 0) dX7_earned_8 (by decide) ?_
    refine j_goto C0 13 dX7_earned_9 (by decide) ?_
    refine j_callVv C0 (k_X7_holds hl ad F G ((0 : Int32)) ) mv_X7_holds wm_X7_85 (r_recv C0) rfl rfl ⟨Nat.le_of_ble_eq_true rfl, Nat.le_of_ble_eq_true rfl⟩ (Nat.le_of_ble_eq_true rfl) ⟨Nat.le_refl _, Nat.le_refl _⟩ dX7_earned_13 ?_
    refine j_top (1 : Int32) (by unfold vX7_holds; decide +kernel) ?_
    show J p l e _ s m args below meth c A 2 _ (OV D Y A ad (0 : Int32) (F 1) (F 5) (F 18) (F 19) (F 20) (G 2) (G 3) (G 4) (G 6) (G 7) (G 8) (G 9) (G 10) (G 11) (G 12) (G 13) (G 14) (G 15) (G 16) (G 17) (G 21) (G 22) (G 23) (G 24) (G 25)) 0 0 16 [(0, .ref (ad 0)), (1, .int (a1))] [.int ((1 : Int32))]
    refine j_if_eq C0 28 dX7_earned_16 (by decide) (fun z => absurd z (by decide)) (fun _ => ?_)
    refine j_aload_n C0 dX7_earned_19 rfl ?_
    refine r_gf_17 C0 dX7_earned_20 ?_
    refine j_iload_n C0 dX7_earned_23 rfl ?_
    refine r_ld_17 C0 (v := ((G 17) (a1).toNatClampNeg)) (isPilot_vp q1) dX7_earned_24 rfl ?_
    refine j_goto C0 29 dX7_earned_25 (by decide) ?_
    exact j_iretE C0 rfl (by rw [vX7_earned, if_neg q1]) dX7_earned_29 (fun H h => by rw [sX7_earned, if_neg q1]; exact h)
/-! ## isReady(I)Z -/
def vX7_isReady (F : Nat → Int32) (G : Nat → Nat → Int32) (a1 : Int32) : Int32 := (if (vX7_isPilot (a1)) = 0 then (0 : Int32) else (if (vX7_isPilotReady (hu F 0 (0 : Int32)) G (a1)) = 0 then (0 : Int32) else (1 : Int32)))
def sX7_isReady (F : Nat → Int32) (G : Nat → Nat → Int32) (a1 : Int32) : (Nat → Int32) × (Nat → Nat → Int32) := (if (vX7_isPilot (a1)) = 0 then ((hu F 0 (1 : Int32)), G) else (if (vX7_isPilotReady (hu F 0 (0 : Int32)) G (a1)) = 0 then ((hu F 0 (0 : Int32)), G) else ((hu F 0 (0 : Int32)), G)))
set_option maxRecDepth 100000 in
set_option maxHeartbeats 4000000 in
theorem k_X7_isReady {l : Launch} (hl : l.stackTraces = false) {D : va_G} {Y : Nat → ClassId} {A : Nat → Prop} {E : State → Prop} (ad : Nat → Nat) (F : Nat → Int32) (G : Nat → Nat → Int32) (a1 : Int32) (hI : RI F G) : KM l yX7_isReady cX7_isReady 2 (some .boolean) D Y A E 2 42 0 0 [.ref (ad 0), .int (a1)] (OR D Y A ad F G) (some (.int (vX7_isReady F G a1))) (OR D Y A ad (sX7_isReady F G a1).1 (sX7_isReady F G a1).2) := by
  refine KM_of RX7 [(0, .ref (ad 0)), (1, .int (a1))] rfl (by decide) hl (Nat.le_of_ble_eq_true rfl) rfl (lok_of rfl rfl) ?_
  intro p e s m args below meth c C0
  obtain ⟨hn, hs, hm, hb, hw, hr⟩ := id hI
  refine j_aload_n C0 dX7_isReady_0 rfl ?_
  refine j_iload_n C0 dX7_isReady_1 rfl ?_
  refine j_callSv C0 (k_X7_isPilot hl (a1) ) ms_X7_isPilot wm_X7_116 rfl rfl ⟨Nat.le_of_ble_eq_true rfl, Nat.le_of_ble_eq_true rfl⟩ (Nat.le_of_ble_eq_true rfl) ⟨Nat.le_refl _, Nat.le_refl _⟩ dX7_isReady_2 ?_
  refine j_if_eq C0 12 dX7_isReady_5 (by decide) (fun (q1 : (vX7_isPilot (a1)) = 0) => ?_) (fun (q1 : ¬ ((vX7_isPilot (a1)) = 0)) => ?_)
  ·
    refine j_iconst C0 (v := 1) dX7_isReady_12 (by decide) ?_
    refine j_callVv C0 (k_X7_holds hl ad F G ((1 : Int32)) ) mv_X7_holds wm_X7_85 (r_recv C0) rfl rfl ⟨Nat.le_of_ble_eq_true rfl, Nat.le_of_ble_eq_true rfl⟩ (Nat.le_of_ble_eq_true rfl) ⟨Nat.le_refl _, Nat.le_refl _⟩ dX7_isReady_13 ?_
    refine j_top (0 : Int32) (by unfold vX7_holds; decide +kernel) ?_
    show J p l e _ s m args below meth c A 2 _ (OV D Y A ad (1 : Int32) (F 1) (F 5) (F 18) (F 19) (F 20) (G 2) (G 3) (G 4) (G 6) (G 7) (G 8) (G 9) (G 10) (G 11) (G 12) (G 13) (G 14) (G 15) (G 16) (G 17) (G 21) (G 22) (G 23) (G 24) (G 25)) 0 0 16 [(0, .ref (ad 0)), (1, .int (a1))] [.int ((0 : Int32))]
    refine j_if_eq C0 31 dX7_isReady_16 (by decide) (fun _ => ?_) (fun z => absurd (by decide) z)
    refine j_iconst C0 (v := 0) dX7_isReady_31 (by decide) ?_
    exact j_zretE C0 rfl (by rw [vX7_isReady, if_pos q1]) (by decide) dX7_isReady_32 (fun H h => by rw [sX7_isReady, if_pos q1]; exact h)
  ·
    refine j_iconst C0 (v := 0) dX7_isReady_8 (by decide) ?_
    refine j_goto C0 13 dX7_isReady_9 (by decide) ?_
    refine j_callVv C0 (k_X7_holds hl ad F G ((0 : Int32)) ) mv_X7_holds wm_X7_85 (r_recv C0) rfl rfl ⟨Nat.le_of_ble_eq_true rfl, Nat.le_of_ble_eq_true rfl⟩ (Nat.le_of_ble_eq_true rfl) ⟨Nat.le_refl _, Nat.le_refl _⟩ dX7_isReady_13 ?_
    refine j_top (1 : Int32) (by unfold vX7_holds; decide +kernel) ?_
    show J p l e _ s m args below meth c A 2 _ (OV D Y A ad (0 : Int32) (F 1) (F 5) (F 18) (F 19) (F 20) (G 2) (G 3) (G 4) (G 6) (G 7) (G 8) (G 9) (G 10) (G 11) (G 12) (G 13) (G 14) (G 15) (G 16) (G 17) (G 21) (G 22) (G 23) (G 24) (G 25)) 0 0 16 [(0, .ref (ad 0)), (1, .int (a1))] [.int ((1 : Int32))]
    refine j_if_eq C0 31 dX7_isReady_16 (by decide) (fun z => absurd z (by decide)) (fun _ => ?_)
    refine j_aload_n C0 dX7_isReady_19 rfl ?_
    refine j_iload_n C0 dX7_isReady_20 rfl ?_
    refine j_callVv C0 (k_X7_isPilotReady hl ad (hu F 0 (0 : Int32)) G (a1) hm) mv_X7_isPilotReady wm_X7_113 (r_recv C0) rfl rfl ⟨Nat.le_of_ble_eq_true rfl, Nat.le_of_ble_eq_true rfl⟩ (Nat.le_of_ble_eq_true rfl) ⟨Nat.le_refl _, Nat.le_refl _⟩ dX7_isReady_21 ?_
    refine j_if_eq C0 31 dX7_isReady_24 (by decide) (fun (q4 : (vX7_isPilotReady (hu F 0 (0 : Int32)) G (a1)) = 0) => ?_) (fun (q4 : ¬ ((vX7_isPilotReady (hu F 0 (0 : Int32)) G (a1)) = 0)) => ?_)
    ·
      refine j_iconst C0 (v := 0) dX7_isReady_31 (by decide) ?_
      exact j_zretE C0 rfl (by rw [vX7_isReady, if_neg q1, if_pos q4]) (by decide) dX7_isReady_32 (fun H h => by rw [sX7_isReady, if_neg q1, if_pos q4]; exact h)
    ·
      refine j_iconst C0 (v := 1) dX7_isReady_27 (by decide) ?_
      refine j_goto C0 32 dX7_isReady_28 (by decide) ?_
      exact j_zretE C0 rfl (by rw [vX7_isReady, if_neg q1, if_neg q4]) (by decide) dX7_isReady_32 (fun H h => by rw [sX7_isReady, if_neg q1, if_neg q4]; exact h)
/-! ## tugs()I -/
def vX7_tugs (F : Nat → Int32) (G : Nat → Nat → Int32) : Int32 := (vX7_tugsNow (hu F 0 (0 : Int32)) G)
def sX7_tugs (F : Nat → Int32) (G : Nat → Nat → Int32) : (Nat → Int32) × (Nat → Nat → Int32) := ((hu F 0 (0 : Int32)), G)
set_option maxRecDepth 100000 in
set_option maxHeartbeats 4000000 in
theorem k_X7_tugs {l : Launch} (hl : l.stackTraces = false) {D : va_G} {Y : Nat → ClassId} {A : Nat → Prop} {E : State → Prop} (ad : Nat → Nat) (F : Nat → Int32) (G : Nat → Nat → Int32)  (hI : RI F G) : KM l yX7_tugs cX7_tugs 1 (some .int) D Y A E 1 24 0 0 [.ref (ad 0)] (OR D Y A ad F G) (some (.int (vX7_tugs F G))) (OR D Y A ad (sX7_tugs F G).1 (sX7_tugs F G).2) := by
  refine KM_of RX7 [(0, .ref (ad 0))] rfl (by decide) hl (Nat.le_of_ble_eq_true rfl) rfl (lok_of rfl rfl) ?_
  intro p e s m args below meth c C0
  obtain ⟨hn, hs, hm, hb, hw, hr⟩ := id hI
  refine j_aload_n C0 dX7_tugs_0 rfl ?_
  refine j_iconst C0 (v := 0) dX7_tugs_1 (by decide) ?_
  refine r_pf_0 C0 dX7_tugs_2 ?_
  refine j_aload_n C0 dX7_tugs_5 rfl ?_
  refine j_callVv C0 (k_X7_tugsNow hl ad (hu F 0 (0 : Int32)) G  hm) mv_X7_tugsNow wm_X7_122 (r_recv C0) rfl rfl ⟨Nat.le_of_ble_eq_true rfl, Nat.le_of_ble_eq_true rfl⟩ (Nat.le_of_ble_eq_true rfl) ⟨Nat.le_refl _, Nat.le_refl _⟩ dX7_tugs_6 ?_
  exact j_iretE C0 rfl (by rw [vX7_tugs]) dX7_tugs_9 (fun H h => by rw [sX7_tugs]; exact h)
/-! ## moves()I -/
def vX7_moves (F : Nat → Int32) (G : Nat → Nat → Int32) : Int32 := (F 20)
def sX7_moves (F : Nat → Int32) (G : Nat → Nat → Int32) : (Nat → Int32) × (Nat → Nat → Int32) := ((hu F 0 (0 : Int32)), G)
set_option maxRecDepth 100000 in
set_option maxHeartbeats 4000000 in
theorem k_X7_moves {l : Launch} (hl : l.stackTraces = false) {D : va_G} {Y : Nat → ClassId} {A : Nat → Prop} {E : State → Prop} (ad : Nat → Nat) (F : Nat → Int32) (G : Nat → Nat → Int32)  (hI : RI F G) : KM l yX7_moves cX7_moves 1 (some .int) D Y A E 0 0 0 0 [.ref (ad 0)] (OR D Y A ad F G) (some (.int (vX7_moves F G))) (OR D Y A ad (sX7_moves F G).1 (sX7_moves F G).2) := by
  refine KM_of RX7 [(0, .ref (ad 0))] rfl (by decide) hl (Nat.le_of_ble_eq_true rfl) rfl (lok_of rfl rfl) ?_
  intro p e s m args below meth c C0
  obtain ⟨hn, hs, hm, hb, hw, hr⟩ := id hI
  refine j_aload_n C0 dX7_moves_0 rfl ?_
  refine j_iconst C0 (v := 0) dX7_moves_1 (by decide) ?_
  refine r_pf_0 C0 dX7_moves_2 ?_
  refine j_aload_n C0 dX7_moves_5 rfl ?_
  refine r_gf_20 C0 (v := (F 20)) dX7_moves_6 rfl ?_
  exact j_iretE C0 rfl (by rw [vX7_moves]) dX7_moves_9 (fun H h => by rw [sX7_moves]; exact h)
/-! ## tugPay()I -/
def vX7_tugPay (F : Nat → Int32) (G : Nat → Nat → Int32) : Int32 := (F 18)
def sX7_tugPay (F : Nat → Int32) (G : Nat → Nat → Int32) : (Nat → Int32) × (Nat → Nat → Int32) := ((hu F 0 (0 : Int32)), G)
set_option maxRecDepth 100000 in
set_option maxHeartbeats 4000000 in
theorem k_X7_tugPay {l : Launch} (hl : l.stackTraces = false) {D : va_G} {Y : Nat → ClassId} {A : Nat → Prop} {E : State → Prop} (ad : Nat → Nat) (F : Nat → Int32) (G : Nat → Nat → Int32)  (hI : RI F G) : KM l yX7_tugPay cX7_tugPay 1 (some .int) D Y A E 0 0 0 0 [.ref (ad 0)] (OR D Y A ad F G) (some (.int (vX7_tugPay F G))) (OR D Y A ad (sX7_tugPay F G).1 (sX7_tugPay F G).2) := by
  refine KM_of RX7 [(0, .ref (ad 0))] rfl (by decide) hl (Nat.le_of_ble_eq_true rfl) rfl (lok_of rfl rfl) ?_
  intro p e s m args below meth c C0
  obtain ⟨hn, hs, hm, hb, hw, hr⟩ := id hI
  refine j_aload_n C0 dX7_tugPay_0 rfl ?_
  refine j_iconst C0 (v := 0) dX7_tugPay_1 (by decide) ?_
  refine r_pf_0 C0 dX7_tugPay_2 ?_
  refine j_aload_n C0 dX7_tugPay_5 rfl ?_
  refine r_gf_18 C0 (v := (F 18)) dX7_tugPay_6 rfl ?_
  exact j_iretE C0 rfl (by rw [vX7_tugPay]) dX7_tugPay_9 (fun H h => by rw [sX7_tugPay]; exact h)
/-! ## port()I -/
def vX7_port (F : Nat → Int32) (G : Nat → Nat → Int32) : Int32 := (F 19)
def sX7_port (F : Nat → Int32) (G : Nat → Nat → Int32) : (Nat → Int32) × (Nat → Nat → Int32) := ((hu F 0 (0 : Int32)), G)
set_option maxRecDepth 100000 in
set_option maxHeartbeats 4000000 in
theorem k_X7_port {l : Launch} (hl : l.stackTraces = false) {D : va_G} {Y : Nat → ClassId} {A : Nat → Prop} {E : State → Prop} (ad : Nat → Nat) (F : Nat → Int32) (G : Nat → Nat → Int32)  (hI : RI F G) : KM l yX7_port cX7_port 1 (some .int) D Y A E 0 0 0 0 [.ref (ad 0)] (OR D Y A ad F G) (some (.int (vX7_port F G))) (OR D Y A ad (sX7_port F G).1 (sX7_port F G).2) := by
  refine KM_of RX7 [(0, .ref (ad 0))] rfl (by decide) hl (Nat.le_of_ble_eq_true rfl) rfl (lok_of rfl rfl) ?_
  intro p e s m args below meth c C0
  obtain ⟨hn, hs, hm, hb, hw, hr⟩ := id hI
  refine j_aload_n C0 dX7_port_0 rfl ?_
  refine j_iconst C0 (v := 0) dX7_port_1 (by decide) ?_
  refine r_pf_0 C0 dX7_port_2 ?_
  refine j_aload_n C0 dX7_port_5 rfl ?_
  refine r_gf_19 C0 (v := (F 19)) dX7_port_6 rfl ?_
  exact j_iretE C0 rfl (by rw [vX7_port]) dX7_port_9 (fun H h => by rw [sX7_port]; exact h)
/-! ## move(I)I -/
def vX7_move (F : Nat → Int32) (G : Nat → Nat → Int32) (a1 : Int32) : Int32 := (if (vX7_isMove F G (a1)) = 0 then (0 : Int32) else (if ((G 25) (a1).toNatClampNeg) = 0 then (((((10000 : Int32) * ((G 21) (a1).toNatClampNeg)) + ((100 : Int32) * ((G 22) (a1).toNatClampNeg))) + ((10 : Int32) * ((G 23) (a1).toNatClampNeg))) + (0 : Int32)) else (((((10000 : Int32) * ((G 21) (a1).toNatClampNeg)) + ((100 : Int32) * ((G 22) (a1).toNatClampNeg))) + ((10 : Int32) * ((G 23) (a1).toNatClampNeg))) + (1 : Int32))))
def sX7_move (F : Nat → Int32) (G : Nat → Nat → Int32) (a1 : Int32) : (Nat → Int32) × (Nat → Nat → Int32) := (if (vX7_isMove F G (a1)) = 0 then ((hu F 0 (1 : Int32)), G) else (if ((G 25) (a1).toNatClampNeg) = 0 then ((hu F 0 (0 : Int32)), G) else ((hu F 0 (0 : Int32)), G)))
set_option maxRecDepth 100000 in
set_option maxHeartbeats 4000000 in
theorem k_X7_move {l : Launch} (hl : l.stackTraces = false) {D : va_G} {Y : Nat → ClassId} {A : Nat → Prop} {E : State → Prop} (ad : Nat → Nat) (F : Nat → Int32) (G : Nat → Nat → Int32) (a1 : Int32) (hI : RI F G) : KM l yX7_move cX7_move 2 (some .int) D Y A E 2 43 0 0 [.ref (ad 0), .int (a1)] (OR D Y A ad F G) (some (.int (vX7_move F G a1))) (OR D Y A ad (sX7_move F G a1).1 (sX7_move F G a1).2) := by
  refine KM_of RX7 [(0, .ref (ad 0)), (1, .int (a1))] rfl (by decide) hl (Nat.le_of_ble_eq_true rfl) rfl (lok_of rfl rfl) ?_
  intro p e s m args below meth c C0
  obtain ⟨hn, hs, hm, hb, hw, hr⟩ := id hI
  obtain ⟨nm, hnm, hme⟩ := id hm
  refine j_aload_n C0 dX7_move_0 rfl ?_
  refine j_aload_n C0 dX7_move_1 rfl ?_
  refine j_iload_n C0 dX7_move_2 rfl ?_
  refine j_callVv C0 (k_X7_isMove hl ad F G (a1) ) mv_X7_isMove wm_X7_161 (r_recv C0) rfl rfl ⟨Nat.le_of_ble_eq_true rfl, Nat.le_of_ble_eq_true rfl⟩ (Nat.le_of_ble_eq_true rfl) ⟨Nat.le_refl _, Nat.le_refl _⟩ dX7_move_3 ?_
  refine j_if_eq C0 13 dX7_move_6 (by decide) (fun (q1 : (vX7_isMove F G (a1)) = 0) => ?_) (fun (q1 : ¬ ((vX7_isMove F G (a1)) = 0)) => ?_)
  ·
    refine j_iconst C0 (v := 1) dX7_move_13 (by decide) ?_
    refine j_callVv C0 (k_X7_holds hl ad F G ((1 : Int32)) ) mv_X7_holds wm_X7_85 (r_recv C0) rfl rfl ⟨Nat.le_of_ble_eq_true rfl, Nat.le_of_ble_eq_true rfl⟩ (Nat.le_of_ble_eq_true rfl) ⟨Nat.le_refl _, Nat.le_refl _⟩ dX7_move_14 ?_
    refine j_top (0 : Int32) (by unfold vX7_holds; decide +kernel) ?_
    show J p l e _ s m args below meth c A 2 _ (OV D Y A ad (1 : Int32) (F 1) (F 5) (F 18) (F 19) (F 20) (G 2) (G 3) (G 4) (G 6) (G 7) (G 8) (G 9) (G 10) (G 11) (G 12) (G 13) (G 14) (G 15) (G 16) (G 17) (G 21) (G 22) (G 23) (G 24) (G 25)) 0 0 17 [(0, .ref (ad 0)), (1, .int (a1))] [.int ((0 : Int32))]
    refine j_if_eq C0 68 dX7_move_17 (by decide) (fun _ => ?_) (fun z => absurd (by decide) z)
    refine j_iconst C0 (v := 0) dX7_move_68 (by decide) ?_
    exact j_iretE C0 rfl (by rw [vX7_move, if_pos q1]) dX7_move_69 (fun H h => by rw [sX7_move, if_pos q1]; exact h)
  ·
    refine j_iconst C0 (v := 0) dX7_move_9 (by decide) ?_
    refine j_goto C0 14 dX7_move_10 (by decide) ?_
    refine j_callVv C0 (k_X7_holds hl ad F G ((0 : Int32)) ) mv_X7_holds wm_X7_85 (r_recv C0) rfl rfl ⟨Nat.le_of_ble_eq_true rfl, Nat.le_of_ble_eq_true rfl⟩ (Nat.le_of_ble_eq_true rfl) ⟨Nat.le_refl _, Nat.le_refl _⟩ dX7_move_14 ?_
    refine j_top (1 : Int32) (by unfold vX7_holds; decide +kernel) ?_
    show J p l e _ s m args below meth c A 2 _ (OV D Y A ad (0 : Int32) (F 1) (F 5) (F 18) (F 19) (F 20) (G 2) (G 3) (G 4) (G 6) (G 7) (G 8) (G 9) (G 10) (G 11) (G 12) (G 13) (G 14) (G 15) (G 16) (G 17) (G 21) (G 22) (G 23) (G 24) (G 25)) 0 0 17 [(0, .ref (ad 0)), (1, .int (a1))] [.int ((1 : Int32))]
    refine j_if_eq C0 68 dX7_move_17 (by decide) (fun z => absurd z (by decide)) (fun _ => ?_)
    refine j_sipush C0 (v := 10000) dX7_move_20 (by decide) ?_
    refine j_aload_n C0 dX7_move_23 rfl ?_
    refine r_gf_21 C0 dX7_move_24 ?_
    refine j_iload_n C0 dX7_move_27 rfl ?_
    refine r_ld_21 C0 (v := ((G 21) (a1).toNatClampNeg)) (vp_mono (isMove_lt hnm hme q1) hnm) dX7_move_28 rfl ?_
    refine j_imul C0 dX7_move_29 ?_
    refine j_bipush C0 (v := 100) dX7_move_30 (by decide) ?_
    refine j_aload_n C0 dX7_move_32 rfl ?_
    refine r_gf_22 C0 dX7_move_33 ?_
    refine j_iload_n C0 dX7_move_36 rfl ?_
    refine r_ld_22 C0 (v := ((G 22) (a1).toNatClampNeg)) (vp_mono (isMove_lt hnm hme q1) hnm) dX7_move_37 rfl ?_
    refine j_imul C0 dX7_move_38 ?_
    refine j_iadd C0 dX7_move_39 ?_
    refine j_bipush C0 (v := 10) dX7_move_40 (by decide) ?_
    refine j_aload_n C0 dX7_move_42 rfl ?_
    refine r_gf_23 C0 dX7_move_43 ?_
    refine j_iload_n C0 dX7_move_46 rfl ?_
    refine r_ld_23 C0 (v := ((G 23) (a1).toNatClampNeg)) (vp_mono (isMove_lt hnm hme q1) hnm) dX7_move_47 rfl ?_
    refine j_imul C0 dX7_move_48 ?_
    refine j_iadd C0 dX7_move_49 ?_
    refine j_aload_n C0 dX7_move_50 rfl ?_
    refine r_gf_25 C0 dX7_move_51 ?_
    refine j_iload_n C0 dX7_move_54 rfl ?_
    refine r_ld_25 C0 (v := ((G 25) (a1).toNatClampNeg)) (vp_mono (isMove_lt hnm hme q1) hnm) dX7_move_55 rfl ?_
    refine j_if_eq C0 63 dX7_move_56 (by decide) (fun (q4 : ((G 25) (a1).toNatClampNeg) = 0) => ?_) (fun (q4 : ¬ (((G 25) (a1).toNatClampNeg) = 0)) => ?_)
    ·
      refine j_iconst C0 (v := 0) dX7_move_63 (by decide) ?_
      refine j_iadd C0 dX7_move_64 ?_
      refine j_goto C0 69 dX7_move_65 (by decide) ?_
      exact j_iretE C0 rfl (by rw [vX7_move, if_neg q1, if_pos q4]) dX7_move_69 (fun H h => by rw [sX7_move, if_neg q1, if_pos q4]; exact h)
    ·
      refine j_iconst C0 (v := 1) dX7_move_59 (by decide) ?_
      refine j_goto C0 64 dX7_move_60 (by decide) ?_
      refine j_iadd C0 dX7_move_64 ?_
      refine j_goto C0 69 dX7_move_65 (by decide) ?_
      exact j_iretE C0 rfl (by rw [vX7_move, if_neg q1, if_neg q4]) dX7_move_69 (fun H h => by rw [sX7_move, if_neg q1, if_neg q4]; exact h)
/-! ## isSound(I)Z -/
def vX7_isSound (F : Nat → Int32) (G : Nat → Nat → Int32) (a1 : Int32) : Int32 := (if (vX7_isMove F G (a1)) = 0 then (0 : Int32) else (1 : Int32))
def sX7_isSound (F : Nat → Int32) (G : Nat → Nat → Int32) (a1 : Int32) : (Nat → Int32) × (Nat → Nat → Int32) := (if (vX7_isMove F G (a1)) = 0 then ((hu F 0 (1 : Int32)), G) else ((hu F 0 (0 : Int32)), G))
set_option maxRecDepth 100000 in
set_option maxHeartbeats 4000000 in
theorem k_X7_isSound {l : Launch} (hl : l.stackTraces = false) {D : va_G} {Y : Nat → ClassId} {A : Nat → Prop} {E : State → Prop} (ad : Nat → Nat) (F : Nat → Int32) (G : Nat → Nat → Int32) (a1 : Int32) (hI : RI F G) : KM l yX7_isSound cX7_isSound 2 (some .boolean) D Y A E 2 43 0 0 [.ref (ad 0), .int (a1)] (OR D Y A ad F G) (some (.int (vX7_isSound F G a1))) (OR D Y A ad (sX7_isSound F G a1).1 (sX7_isSound F G a1).2) := by
  refine KM_of RX7 [(0, .ref (ad 0)), (1, .int (a1))] rfl (by decide) hl (Nat.le_of_ble_eq_true rfl) rfl (lok_of rfl rfl) ?_
  intro p e s m args below meth c C0
  obtain ⟨hn, hs, hm, hb, hw, hr⟩ := id hI
  refine j_aload_n C0 dX7_isSound_0 rfl ?_
  refine j_aload_n C0 dX7_isSound_1 rfl ?_
  refine j_iload_n C0 dX7_isSound_2 rfl ?_
  refine j_callVv C0 (k_X7_isMove hl ad F G (a1) ) mv_X7_isMove wm_X7_161 (r_recv C0) rfl rfl ⟨Nat.le_of_ble_eq_true rfl, Nat.le_of_ble_eq_true rfl⟩ (Nat.le_of_ble_eq_true rfl) ⟨Nat.le_refl _, Nat.le_refl _⟩ dX7_isSound_3 ?_
  refine j_if_eq C0 13 dX7_isSound_6 (by decide) (fun (q1 : (vX7_isMove F G (a1)) = 0) => ?_) (fun (q1 : ¬ ((vX7_isMove F G (a1)) = 0)) => ?_)
  ·
    refine j_iconst C0 (v := 1) dX7_isSound_13 (by decide) ?_
    refine j_callVv C0 (k_X7_holds hl ad F G ((1 : Int32)) ) mv_X7_holds wm_X7_85 (r_recv C0) rfl rfl ⟨Nat.le_of_ble_eq_true rfl, Nat.le_of_ble_eq_true rfl⟩ (Nat.le_of_ble_eq_true rfl) ⟨Nat.le_refl _, Nat.le_refl _⟩ dX7_isSound_14 ?_
    refine j_top (0 : Int32) (by unfold vX7_holds; decide +kernel) ?_
    show J p l e _ s m args below meth c A 2 _ (OV D Y A ad (1 : Int32) (F 1) (F 5) (F 18) (F 19) (F 20) (G 2) (G 3) (G 4) (G 6) (G 7) (G 8) (G 9) (G 10) (G 11) (G 12) (G 13) (G 14) (G 15) (G 16) (G 17) (G 21) (G 22) (G 23) (G 24) (G 25)) 0 0 17 [(0, .ref (ad 0)), (1, .int (a1))] [.int ((0 : Int32))]
    exact j_zretE C0 rfl (by rw [vX7_isSound, if_pos q1]) (by decide) dX7_isSound_17 (fun H h => by rw [sX7_isSound, if_pos q1]; exact h)
  ·
    refine j_iconst C0 (v := 0) dX7_isSound_9 (by decide) ?_
    refine j_goto C0 14 dX7_isSound_10 (by decide) ?_
    refine j_callVv C0 (k_X7_holds hl ad F G ((0 : Int32)) ) mv_X7_holds wm_X7_85 (r_recv C0) rfl rfl ⟨Nat.le_of_ble_eq_true rfl, Nat.le_of_ble_eq_true rfl⟩ (Nat.le_of_ble_eq_true rfl) ⟨Nat.le_refl _, Nat.le_refl _⟩ dX7_isSound_14 ?_
    refine j_top (1 : Int32) (by unfold vX7_holds; decide +kernel) ?_
    show J p l e _ s m args below meth c A 2 _ (OV D Y A ad (0 : Int32) (F 1) (F 5) (F 18) (F 19) (F 20) (G 2) (G 3) (G 4) (G 6) (G 7) (G 8) (G 9) (G 10) (G 11) (G 12) (G 13) (G 14) (G 15) (G 16) (G 17) (G 21) (G 22) (G 23) (G 24) (G 25)) 0 0 17 [(0, .ref (ad 0)), (1, .int (a1))] [.int ((1 : Int32))]
    exact j_zretE C0 rfl (by rw [vX7_isSound, if_neg q1]) (by decide) dX7_isSound_17 (fun H h => by rw [sX7_isSound, if_neg q1]; exact h)
/-! ## payClaim(I)I -/
def vX7_payClaim (F : Nat → Int32) (G : Nat → Nat → Int32) (a1 : Int32) : Int32 := (if (vX7_isShip F G (a1)) = 0 then (0 : Int32) else (if ((G 15) (a1).toNatClampNeg) = 0 then (0 : Int32) else ((80 : Int32) * ((G 6) (a1).toNatClampNeg))))
def sX7_payClaim (F : Nat → Int32) (G : Nat → Nat → Int32) (a1 : Int32) : (Nat → Int32) × (Nat → Nat → Int32) := (if (vX7_isShip F G (a1)) = 0 then ((hu F 0 (1 : Int32)), G) else (if ((G 15) (a1).toNatClampNeg) = 0 then ((hu F 0 (2 : Int32)), G) else ((hu (hu F 0 (0 : Int32)) 19 ((F 19) - ((80 : Int32) * ((G 6) (a1).toNatClampNeg)))), (hu (hu G 15 (upd (G 15) (a1).toNatClampNeg ((((G 15) (a1).toNatClampNeg) - (1 : Int32))))) 13 (upd (G 13) (a1).toNatClampNeg ((((G 13) (a1).toNatClampNeg) - ((80 : Int32) * ((G 6) (a1).toNatClampNeg)))))))))
set_option maxRecDepth 100000 in
set_option maxHeartbeats 4000000 in
theorem k_X7_payClaim {l : Launch} (hl : l.stackTraces = false) {D : va_G} {Y : Nat → ClassId} {A : Nat → Prop} {E : State → Prop} (ad : Nat → Nat) (F : Nat → Int32) (G : Nat → Nat → Int32) (a1 : Int32) (hI : RI F G) : KM l yX7_payClaim cX7_payClaim 3 (some .int) D Y A E 2 43 0 0 [.ref (ad 0), .int (a1)] (OR D Y A ad F G) (some (.int (vX7_payClaim F G a1))) (OR D Y A ad (sX7_payClaim F G a1).1 (sX7_payClaim F G a1).2) := by
  refine KM_of RX7 [(0, .ref (ad 0)), (1, .int (a1))] rfl (by decide) hl (Nat.le_of_ble_eq_true rfl) rfl (lok_of rfl rfl) ?_
  intro p e s m args below meth c C0
  obtain ⟨hn, hs, hm, hb, hw, hr⟩ := id hI
  refine j_aload_n C0 dX7_payClaim_0 rfl ?_
  refine j_iload_n C0 dX7_payClaim_1 rfl ?_
  refine j_callVv C0 (k_X7_isShip hl ad F G (a1) ) mv_X7_isShip wm_X7_99 (r_recv C0) rfl rfl ⟨Nat.le_of_ble_eq_true rfl, Nat.le_of_ble_eq_true rfl⟩ (Nat.le_of_ble_eq_true rfl) ⟨Nat.le_refl _, Nat.le_refl _⟩ dX7_payClaim_2 ?_
  refine j_istore_n C0 (L' := [(0, .ref (ad 0)), (1, .int (a1)), (2, .int ((vX7_isShip F G (a1))))]) dX7_payClaim_5 (by decide) rfl ?_
  refine j_aload_n C0 dX7_payClaim_6 rfl ?_
  refine j_iload_n C0 dX7_payClaim_7 rfl ?_
  refine j_if_ne C0 15 dX7_payClaim_8 (by decide) (fun (q1 : ¬ ((vX7_isShip F G (a1)) = 0)) => ?_) (fun (q1 : (vX7_isShip F G (a1)) = 0) => ?_)
  ·
    refine j_aload_n C0 dX7_payClaim_15 rfl ?_
    refine r_gf_15 C0 dX7_payClaim_16 ?_
    refine j_iload_n C0 dX7_payClaim_19 rfl ?_
    refine r_ld_15 C0 (v := ((G 15) (a1).toNatClampNeg)) (isShip_vp hs q1) dX7_payClaim_20 rfl ?_
    refine j_if_ne C0 28 dX7_payClaim_21 (by decide) (fun (q2 : ¬ (((G 15) (a1).toNatClampNeg) = 0)) => ?_) (fun (q2 : ((G 15) (a1).toNatClampNeg) = 0) => ?_)
    ·
      refine j_iconst C0 (v := 0) dX7_payClaim_28 (by decide) ?_
      refine j_callVv C0 (k_X7_holds hl ad F G ((0 : Int32)) ) mv_X7_holds wm_X7_85 (r_recv C0) rfl rfl ⟨Nat.le_of_ble_eq_true rfl, Nat.le_of_ble_eq_true rfl⟩ (Nat.le_of_ble_eq_true rfl) ⟨Nat.le_refl _, Nat.le_refl _⟩ dX7_payClaim_29 ?_
      refine j_top (1 : Int32) (by unfold vX7_holds; decide +kernel) ?_
      show J p l e _ s m args below meth c A 3 _ (OV D Y A ad (0 : Int32) (F 1) (F 5) (F 18) (F 19) (F 20) (G 2) (G 3) (G 4) (G 6) (G 7) (G 8) (G 9) (G 10) (G 11) (G 12) (G 13) (G 14) (G 15) (G 16) (G 17) (G 21) (G 22) (G 23) (G 24) (G 25)) 0 0 32 [(0, .ref (ad 0)), (1, .int (a1)), (2, .int ((vX7_isShip F G (a1))))] [.int ((1 : Int32))]
      refine j_if_ne C0 37 dX7_payClaim_32 (by decide) (fun _ => ?_) (fun z => absurd z (by decide))
      refine j_aload_n C0 dX7_payClaim_37 rfl ?_
      refine r_gf_15 C0 dX7_payClaim_38 ?_
      refine j_iload_n C0 dX7_payClaim_41 rfl ?_
      refine j_dup2 C0 dX7_payClaim_42 rfl rfl ?_
      refine r_ld_15 C0 (v := ((G 15) (a1).toNatClampNeg)) (isShip_vp hs q1) dX7_payClaim_43 rfl ?_
      refine j_iconst C0 (v := 1) dX7_payClaim_44 (by decide) ?_
      refine j_isub C0 dX7_payClaim_45 ?_
      refine r_st_15 C0 (isShip_vp hs q1) dX7_payClaim_46 ?_
      refine j_aload_n C0 dX7_payClaim_47 rfl ?_
      refine r_gf_13 C0 dX7_payClaim_48 ?_
      refine j_iload_n C0 dX7_payClaim_51 rfl ?_
      refine j_dup2 C0 dX7_payClaim_52 rfl rfl ?_
      refine r_ld_13 C0 (v := ((G 13) (a1).toNatClampNeg)) (isShip_vp hs q1) dX7_payClaim_53 rfl ?_
      refine j_bipush C0 (v := 80) dX7_payClaim_54 (by decide) ?_
      refine j_aload_n C0 dX7_payClaim_56 rfl ?_
      refine r_gf_6 C0 dX7_payClaim_57 ?_
      refine j_iload_n C0 dX7_payClaim_60 rfl ?_
      refine r_ld_6 C0 (v := ((G 6) (a1).toNatClampNeg)) (isShip_vp hs q1) dX7_payClaim_61 rfl ?_
      refine j_imul C0 dX7_payClaim_62 ?_
      refine j_isub C0 dX7_payClaim_63 ?_
      refine r_st_13 C0 (isShip_vp hs q1) dX7_payClaim_64 ?_
      refine j_aload_n C0 dX7_payClaim_65 rfl ?_
      refine j_dup C0 dX7_payClaim_66 rfl ?_
      refine r_gf_19 C0 (v := (F 19)) dX7_payClaim_67 rfl ?_
      refine j_bipush C0 (v := 80) dX7_payClaim_70 (by decide) ?_
      refine j_aload_n C0 dX7_payClaim_72 rfl ?_
      refine r_gf_6 C0 dX7_payClaim_73 ?_
      refine j_iload_n C0 dX7_payClaim_76 rfl ?_
      refine r_ld_6 C0 (v := ((G 6) (a1).toNatClampNeg)) (isShip_vp hs q1) dX7_payClaim_77 rfl ?_
      refine j_imul C0 dX7_payClaim_78 ?_
      refine j_isub C0 dX7_payClaim_79 ?_
      refine r_pf_19 C0 dX7_payClaim_80 ?_
      refine j_bipush C0 (v := 80) dX7_payClaim_83 (by decide) ?_
      refine j_aload_n C0 dX7_payClaim_85 rfl ?_
      refine r_gf_6 C0 dX7_payClaim_86 ?_
      refine j_iload_n C0 dX7_payClaim_89 rfl ?_
      refine r_ld_6 C0 (v := ((G 6) (a1).toNatClampNeg)) (isShip_vp hs q1) dX7_payClaim_90 rfl ?_
      refine j_imul C0 dX7_payClaim_91 ?_
      exact j_iretE C0 rfl (by rw [vX7_payClaim, if_neg q1, if_neg q2]) dX7_payClaim_92 (fun H h => by rw [sX7_payClaim, if_neg q1, if_neg q2]; exact h)
    ·
      refine j_iconst C0 (v := 2) dX7_payClaim_24 (by decide) ?_
      refine j_goto C0 29 dX7_payClaim_25 (by decide) ?_
      refine j_callVv C0 (k_X7_holds hl ad F G ((2 : Int32)) ) mv_X7_holds wm_X7_85 (r_recv C0) rfl rfl ⟨Nat.le_of_ble_eq_true rfl, Nat.le_of_ble_eq_true rfl⟩ (Nat.le_of_ble_eq_true rfl) ⟨Nat.le_refl _, Nat.le_refl _⟩ dX7_payClaim_29 ?_
      refine j_top (0 : Int32) (by unfold vX7_holds; decide +kernel) ?_
      show J p l e _ s m args below meth c A 3 _ (OV D Y A ad (2 : Int32) (F 1) (F 5) (F 18) (F 19) (F 20) (G 2) (G 3) (G 4) (G 6) (G 7) (G 8) (G 9) (G 10) (G 11) (G 12) (G 13) (G 14) (G 15) (G 16) (G 17) (G 21) (G 22) (G 23) (G 24) (G 25)) 0 0 32 [(0, .ref (ad 0)), (1, .int (a1)), (2, .int ((vX7_isShip F G (a1))))] [.int ((0 : Int32))]
      refine j_if_ne C0 37 dX7_payClaim_32 (by decide) (fun z => absurd (by decide) z) (fun _ => ?_)
      refine j_iconst C0 (v := 0) dX7_payClaim_35 (by decide) ?_
      exact j_iretE C0 rfl (by rw [vX7_payClaim, if_neg q1, if_pos q2]) dX7_payClaim_36 (fun H h => by rw [sX7_payClaim, if_neg q1, if_pos q2]; exact h)
  ·
    refine j_iconst C0 (v := 1) dX7_payClaim_11 (by decide) ?_
    refine j_goto C0 29 dX7_payClaim_12 (by decide) ?_
    refine j_callVv C0 (k_X7_holds hl ad F G ((1 : Int32)) ) mv_X7_holds wm_X7_85 (r_recv C0) rfl rfl ⟨Nat.le_of_ble_eq_true rfl, Nat.le_of_ble_eq_true rfl⟩ (Nat.le_of_ble_eq_true rfl) ⟨Nat.le_refl _, Nat.le_refl _⟩ dX7_payClaim_29 ?_
    refine j_top (0 : Int32) (by unfold vX7_holds; decide +kernel) ?_
    show J p l e _ s m args below meth c A 3 _ (OV D Y A ad (1 : Int32) (F 1) (F 5) (F 18) (F 19) (F 20) (G 2) (G 3) (G 4) (G 6) (G 7) (G 8) (G 9) (G 10) (G 11) (G 12) (G 13) (G 14) (G 15) (G 16) (G 17) (G 21) (G 22) (G 23) (G 24) (G 25)) 0 0 32 [(0, .ref (ad 0)), (1, .int (a1)), (2, .int ((vX7_isShip F G (a1))))] [.int ((0 : Int32))]
    refine j_if_ne C0 37 dX7_payClaim_32 (by decide) (fun z => absurd (by decide) z) (fun _ => ?_)
    refine j_iconst C0 (v := 0) dX7_payClaim_35 (by decide) ?_
    exact j_iretE C0 rfl (by rw [vX7_payClaim, if_pos q1]) dX7_payClaim_36 (fun H h => by rw [sX7_payClaim, if_pos q1]; exact h)
def PS (F : Nat → Int32) (n : Nat) (v : (Nat → Int32) × (Nat → Nat → Int32)) : Prop := RI v.1 v.2 ∧ v.1 1 = F 1 + nI n ∧ v.1 5 = F 5
/-! ## pass(I)I -/
def bX7_pass_47 (F : Nat → Int32) (G : Nat → Nat → Int32) (a1 : Int32) (j47 : Nat) (v47 : (Nat → Int32) × (Nat → Nat → Int32)) : (Nat → Int32) × (Nat → Nat → Int32) := match v47 with | (v47_0, v47_1) => ((sX7_passes v47_0 v47_1).1, (sX7_passes v47_0 v47_1).2)
def vX7_pass (F : Nat → Int32) (G : Nat → Nat → Int32) (a1 : Int32) : Int32 := (if (vX7_isIn (a1) ((1 : Int32)) ((100 : Int32))) = 0 then (0 : Int32) else (if ((F 1) + a1) ≤ (3000 : Int32) then (((nf (bX7_pass_47 F G a1) ((hu F 0 (0 : Int32)), G) ((a1).toNatClampNeg)).1 20) - (F 20)) else (0 : Int32)))
def sX7_pass (F : Nat → Int32) (G : Nat → Nat → Int32) (a1 : Int32) : (Nat → Int32) × (Nat → Nat → Int32) := (if (vX7_isIn (a1) ((1 : Int32)) ((100 : Int32))) = 0 then ((hu F 0 (1 : Int32)), G) else (if ((F 1) + a1) ≤ (3000 : Int32) then ((nf (bX7_pass_47 F G a1) ((hu F 0 (0 : Int32)), G) ((a1).toNatClampNeg)).1, (nf (bX7_pass_47 F G a1) ((hu F 0 (0 : Int32)), G) ((a1).toNatClampNeg)).2) else ((hu F 0 (2 : Int32)), G)))
theorem pass_inv (F : Nat → Int32) (G : Nat → Nat → Int32) (a1 : Int32) {n u : Nat} (ea : F 1 = nI n) (hle : n + u ≤ 3000) (init : (Nat → Int32) × (Nat → Nat → Int32)) (h0 : PS F 0 init) : ∀ N, N ≤ u → PS F N (nf (bX7_pass_47 F G a1) init N) := by
  intro N
  induction N with
  | zero => intro _; exact h0
  | succ k ih =>
    intro hk
    have ih := ih (by omega)
    rw [nf]
    generalize nf (bX7_pass_47 F G a1) init k = v at ih ⊢
    obtain ⟨v0, v1⟩ := v
    obtain ⟨h1, h2, h3⟩ := ih
    dsimp only at h1 h2 h3
    have hc : ct (v0 1 + (1 : Int32)) 3000 := ⟨n + k + 1, by omega, by rw [h2, ea, nI_add, nI_1]⟩
    obtain ⟨k1, k2, k3⟩ := passes_RI h1 hc
    rw [bX7_pass_47]
    exact ⟨k1, by rw [k2, h2, Int32.add_assoc, nI_1], k3.trans h3⟩
set_option maxRecDepth 100000 in
set_option maxHeartbeats 4000000 in
theorem k_X7_pass {l : Launch} (hl : l.stackTraces = false) {D : va_G} {Y : Nat → ClassId} {A : Nat → Prop} {E : State → Prop} (ad : Nat → Nat) (F : Nat → Int32) (G : Nat → Nat → Int32) (a1 : Int32) (hI : RI F G) : KM l yX7_pass cX7_pass 4 (some .int) D Y A E 5 118 0 0 [.ref (ad 0), .int (a1)] (OR D Y A ad F G) (some (.int (vX7_pass F G a1))) (OR D Y A ad (sX7_pass F G a1).1 (sX7_pass F G a1).2) := by
  refine KM_of RX7 [(0, .ref (ad 0)), (1, .int (a1))] rfl (by decide) hl (Nat.le_of_ble_eq_true rfl) rfl (lok_of rfl rfl) ?_
  intro p e s m args below meth c C0
  obtain ⟨hn, hs, hm, hb, hw, hr⟩ := id hI
  refine j_aload_n C0 dX7_pass_0 rfl ?_
  refine j_iload_n C0 dX7_pass_1 rfl ?_
  refine j_iconst C0 (v := 1) dX7_pass_2 (by decide) ?_
  refine j_bipush C0 (v := 100) dX7_pass_3 (by decide) ?_
  refine j_callSv C0 (k_X7_isIn hl (a1) ((1 : Int32)) ((100 : Int32)) ) ms_X7_isIn wm_X7_78 rfl rfl ⟨Nat.le_of_ble_eq_true rfl, Nat.le_of_ble_eq_true rfl⟩ (Nat.le_of_ble_eq_true rfl) ⟨Nat.le_refl _, Nat.le_refl _⟩ dX7_pass_5 ?_
  refine j_if_ne C0 15 dX7_pass_8 (by decide) (fun (q1 : ¬ ((vX7_isIn (a1) ((1 : Int32)) ((100 : Int32))) = 0)) => ?_) (fun (q1 : (vX7_isIn (a1) ((1 : Int32)) ((100 : Int32))) = 0) => ?_)
  ·
    refine j_aload_n C0 dX7_pass_15 rfl ?_
    refine r_gf_1 C0 (v := (F 1)) dX7_pass_16 rfl ?_
    refine j_iload_n C0 dX7_pass_19 rfl ?_
    refine j_iadd C0 dX7_pass_20 ?_
    refine j_sipush C0 (v := 3000) dX7_pass_21 (by decide) ?_
    refine j_icmp_le C0 31 dX7_pass_24 (by decide) (fun (q2 : ((F 1) + a1) ≤ (3000 : Int32)) => ?_) (fun (q2 : ¬ (((F 1) + a1) ≤ (3000 : Int32))) => ?_)
    ·
      refine j_iconst C0 (v := 0) dX7_pass_31 (by decide) ?_
      refine j_callVv C0 (k_X7_holds hl ad F G ((0 : Int32)) ) mv_X7_holds wm_X7_85 (r_recv C0) rfl rfl ⟨Nat.le_of_ble_eq_true rfl, Nat.le_of_ble_eq_true rfl⟩ (Nat.le_of_ble_eq_true rfl) ⟨Nat.le_refl _, Nat.le_refl _⟩ dX7_pass_32 ?_
      refine j_top (1 : Int32) (by unfold vX7_holds; decide +kernel) ?_
      show J p l e _ s m args below meth c A 4 _ (OV D Y A ad (0 : Int32) (F 1) (F 5) (F 18) (F 19) (F 20) (G 2) (G 3) (G 4) (G 6) (G 7) (G 8) (G 9) (G 10) (G 11) (G 12) (G 13) (G 14) (G 15) (G 16) (G 17) (G 21) (G 22) (G 23) (G 24) (G 25)) 0 0 35 [(0, .ref (ad 0)), (1, .int (a1))] [.int ((1 : Int32))]
      refine j_if_ne C0 40 dX7_pass_35 (by decide) (fun _ => ?_) (fun z => absurd z (by decide))
      refine j_aload_n C0 dX7_pass_40 rfl ?_
      refine r_gf_20 C0 (v := (F 20)) dX7_pass_41 rfl ?_
      refine j_istore_n C0 (L' := [(0, .ref (ad 0)), (1, .int (a1)), (2, .int ((F 20)))]) dX7_pass_44 (by decide) rfl ?_
      refine j_iconst C0 (v := 0) dX7_pass_45 (by decide) ?_
      refine j_istore_n C0 (L' := [(0, .ref (ad 0)), (1, .int (a1)), (2, .int ((F 20))), (3, .int ((0 : Int32)))]) dX7_pass_46 (by decide) rfl ?_
      obtain ⟨n1, u, ea, eb, hx1, hx2, hle⟩ := (pass_facts hn q1 q2)
      have hN : a1.toNatClampNeg = u := by rw [eb, nI_clamp (by omega)]
      refine hb_lp (P := fun (j : Nat) (v : (Nat → Int32) × (Nat → Nat → Int32)) => J p l e _ s m args below meth c A 4 _ (OV D Y A ad (v.1 0) (v.1 1) (v.1 5) (v.1 18) (v.1 19) (v.1 20) (v.2 2) (v.2 3) (v.2 4) (v.2 6) (v.2 7) (v.2 8) (v.2 9) (v.2 10) (v.2 11) (v.2 12) (v.2 13) (v.2 14) (v.2 15) (v.2 16) (v.2 17) (v.2 21) (v.2 22) (v.2 23) (v.2 24) (v.2 25)) 0 0 47 [(0, .ref (ad 0)), (1, .int (a1)), (2, .int ((F 20))), (3, .int (nI j))] []) (bX7_pass_47 F G a1) ((hu F 0 (0 : Int32)), G) ((a1).toNatClampNeg) ?_ ?_
      ·
        intro j47 hj47 K47
        have hv47 := pass_inv F G a1 ea hle ((hu F 0 (0 : Int32)), G) ⟨⟨hn, hs, hm, hb, hw, hr⟩, (k_zero _).symm, rfl⟩ j47
        generalize nf (bX7_pass_47 F G a1) ((hu F 0 (0 : Int32)), G) j47 = v47 at K47 hv47 ⊢
        obtain ⟨v47_0, v47_1⟩ := v47
        try dsimp only at hv47
        show J p l e _ s m args below meth c A 4 _ (OV D Y A ad (v47_0 0) (v47_0 1) (v47_0 5) (v47_0 18) (v47_0 19) (v47_0 20) (v47_1 2) (v47_1 3) (v47_1 4) (v47_1 6) (v47_1 7) (v47_1 8) (v47_1 9) (v47_1 10) (v47_1 11) (v47_1 12) (v47_1 13) (v47_1 14) (v47_1 15) (v47_1 16) (v47_1 17) (v47_1 21) (v47_1 22) (v47_1 23) (v47_1 24) (v47_1 25)) 0 0 47 [(0, .ref (ad 0)), (1, .int (a1)), (2, .int ((F 20))), (3, .int (nI j47))] []
        replace K47 : J p l e _ s m args below meth c A 4 _ (OV D Y A ad ((bX7_pass_47 F G a1 j47 (v47_0, v47_1)).1 0) ((bX7_pass_47 F G a1 j47 (v47_0, v47_1)).1 1) ((bX7_pass_47 F G a1 j47 (v47_0, v47_1)).1 5) ((bX7_pass_47 F G a1 j47 (v47_0, v47_1)).1 18) ((bX7_pass_47 F G a1 j47 (v47_0, v47_1)).1 19) ((bX7_pass_47 F G a1 j47 (v47_0, v47_1)).1 20) ((bX7_pass_47 F G a1 j47 (v47_0, v47_1)).2 2) ((bX7_pass_47 F G a1 j47 (v47_0, v47_1)).2 3) ((bX7_pass_47 F G a1 j47 (v47_0, v47_1)).2 4) ((bX7_pass_47 F G a1 j47 (v47_0, v47_1)).2 6) ((bX7_pass_47 F G a1 j47 (v47_0, v47_1)).2 7) ((bX7_pass_47 F G a1 j47 (v47_0, v47_1)).2 8) ((bX7_pass_47 F G a1 j47 (v47_0, v47_1)).2 9) ((bX7_pass_47 F G a1 j47 (v47_0, v47_1)).2 10) ((bX7_pass_47 F G a1 j47 (v47_0, v47_1)).2 11) ((bX7_pass_47 F G a1 j47 (v47_0, v47_1)).2 12) ((bX7_pass_47 F G a1 j47 (v47_0, v47_1)).2 13) ((bX7_pass_47 F G a1 j47 (v47_0, v47_1)).2 14) ((bX7_pass_47 F G a1 j47 (v47_0, v47_1)).2 15) ((bX7_pass_47 F G a1 j47 (v47_0, v47_1)).2 16) ((bX7_pass_47 F G a1 j47 (v47_0, v47_1)).2 17) ((bX7_pass_47 F G a1 j47 (v47_0, v47_1)).2 21) ((bX7_pass_47 F G a1 j47 (v47_0, v47_1)).2 22) ((bX7_pass_47 F G a1 j47 (v47_0, v47_1)).2 23) ((bX7_pass_47 F G a1 j47 (v47_0, v47_1)).2 24) ((bX7_pass_47 F G a1 j47 (v47_0, v47_1)).2 25)) 0 0 47 [(0, .ref (ad 0)), (1, .int (a1)), (2, .int ((F 20))), (3, .int (nI (j47 + 1)))] [] := K47
        have hA47 : RI v47_0 v47_1 := (hv47 (by omega)).1; have hB47 : v47_0 1 = F 1 + nI j47 := (hv47 (by omega)).2.1; have hC47 : ct (v47_0 1 + (1 : Int32)) 3000 := ⟨n1 + j47 + 1, by omega, by rw [hB47, ea, nI_add, nI_1]⟩
        refine j_iload_n C0 dX7_pass_47 rfl ?_
        refine j_iload_n C0 dX7_pass_48 rfl ?_
        refine j_icmp_ge C0 62 dX7_pass_49 (by decide) (fun z => absurd z (cl_lt rfl hj47)) (fun _ => ?_)
        refine j_aload_n C0 dX7_pass_52 rfl ?_
        refine j_callVn C0 (k_X7_passes hl ad v47_0 v47_1  hA47 hC47) mv_X7_passes wm_X7_158 (r_recv C0) rfl rfl ⟨Nat.le_of_ble_eq_true rfl, Nat.le_of_ble_eq_true rfl⟩ (Nat.le_of_ble_eq_true rfl) ⟨Nat.le_refl _, Nat.le_refl _⟩ dX7_pass_53 ?_
        show J p l e _ s m args below meth c A 4 _ (OV D Y A ad ((sX7_passes v47_0 v47_1).1 0) ((sX7_passes v47_0 v47_1).1 1) ((sX7_passes v47_0 v47_1).1 5) ((sX7_passes v47_0 v47_1).1 18) ((sX7_passes v47_0 v47_1).1 19) ((sX7_passes v47_0 v47_1).1 20) ((sX7_passes v47_0 v47_1).2 2) ((sX7_passes v47_0 v47_1).2 3) ((sX7_passes v47_0 v47_1).2 4) ((sX7_passes v47_0 v47_1).2 6) ((sX7_passes v47_0 v47_1).2 7) ((sX7_passes v47_0 v47_1).2 8) ((sX7_passes v47_0 v47_1).2 9) ((sX7_passes v47_0 v47_1).2 10) ((sX7_passes v47_0 v47_1).2 11) ((sX7_passes v47_0 v47_1).2 12) ((sX7_passes v47_0 v47_1).2 13) ((sX7_passes v47_0 v47_1).2 14) ((sX7_passes v47_0 v47_1).2 15) ((sX7_passes v47_0 v47_1).2 16) ((sX7_passes v47_0 v47_1).2 17) ((sX7_passes v47_0 v47_1).2 21) ((sX7_passes v47_0 v47_1).2 22) ((sX7_passes v47_0 v47_1).2 23) ((sX7_passes v47_0 v47_1).2 24) ((sX7_passes v47_0 v47_1).2 25)) 0 0 56 [(0, .ref (ad 0)), (1, .int (a1)), (2, .int ((F 20))), (3, .int (nI j47))] []
        refine j_iinc C0 (v := nI (j47 + 1)) (L' := [(0, .ref (ad 0)), (1, .int (a1)), (2, .int ((F 20))), (3, .int (nI (j47 + 1)))]) dX7_pass_56 rfl (nI_inc j47) (by decide) rfl ?_
        refine j_goto C0 47 dX7_pass_59 (by decide) ?_
        exact K47
      ·
        show J p l e _ s m args below meth c A 4 _ (OV D Y A ad ((nf (bX7_pass_47 F G a1) ((hu F 0 (0 : Int32)), G) ((a1).toNatClampNeg)).1 0) ((nf (bX7_pass_47 F G a1) ((hu F 0 (0 : Int32)), G) ((a1).toNatClampNeg)).1 1) ((nf (bX7_pass_47 F G a1) ((hu F 0 (0 : Int32)), G) ((a1).toNatClampNeg)).1 5) ((nf (bX7_pass_47 F G a1) ((hu F 0 (0 : Int32)), G) ((a1).toNatClampNeg)).1 18) ((nf (bX7_pass_47 F G a1) ((hu F 0 (0 : Int32)), G) ((a1).toNatClampNeg)).1 19) ((nf (bX7_pass_47 F G a1) ((hu F 0 (0 : Int32)), G) ((a1).toNatClampNeg)).1 20) ((nf (bX7_pass_47 F G a1) ((hu F 0 (0 : Int32)), G) ((a1).toNatClampNeg)).2 2) ((nf (bX7_pass_47 F G a1) ((hu F 0 (0 : Int32)), G) ((a1).toNatClampNeg)).2 3) ((nf (bX7_pass_47 F G a1) ((hu F 0 (0 : Int32)), G) ((a1).toNatClampNeg)).2 4) ((nf (bX7_pass_47 F G a1) ((hu F 0 (0 : Int32)), G) ((a1).toNatClampNeg)).2 6) ((nf (bX7_pass_47 F G a1) ((hu F 0 (0 : Int32)), G) ((a1).toNatClampNeg)).2 7) ((nf (bX7_pass_47 F G a1) ((hu F 0 (0 : Int32)), G) ((a1).toNatClampNeg)).2 8) ((nf (bX7_pass_47 F G a1) ((hu F 0 (0 : Int32)), G) ((a1).toNatClampNeg)).2 9) ((nf (bX7_pass_47 F G a1) ((hu F 0 (0 : Int32)), G) ((a1).toNatClampNeg)).2 10) ((nf (bX7_pass_47 F G a1) ((hu F 0 (0 : Int32)), G) ((a1).toNatClampNeg)).2 11) ((nf (bX7_pass_47 F G a1) ((hu F 0 (0 : Int32)), G) ((a1).toNatClampNeg)).2 12) ((nf (bX7_pass_47 F G a1) ((hu F 0 (0 : Int32)), G) ((a1).toNatClampNeg)).2 13) ((nf (bX7_pass_47 F G a1) ((hu F 0 (0 : Int32)), G) ((a1).toNatClampNeg)).2 14) ((nf (bX7_pass_47 F G a1) ((hu F 0 (0 : Int32)), G) ((a1).toNatClampNeg)).2 15) ((nf (bX7_pass_47 F G a1) ((hu F 0 (0 : Int32)), G) ((a1).toNatClampNeg)).2 16) ((nf (bX7_pass_47 F G a1) ((hu F 0 (0 : Int32)), G) ((a1).toNatClampNeg)).2 17) ((nf (bX7_pass_47 F G a1) ((hu F 0 (0 : Int32)), G) ((a1).toNatClampNeg)).2 21) ((nf (bX7_pass_47 F G a1) ((hu F 0 (0 : Int32)), G) ((a1).toNatClampNeg)).2 22) ((nf (bX7_pass_47 F G a1) ((hu F 0 (0 : Int32)), G) ((a1).toNatClampNeg)).2 23) ((nf (bX7_pass_47 F G a1) ((hu F 0 (0 : Int32)), G) ((a1).toNatClampNeg)).2 24) ((nf (bX7_pass_47 F G a1) ((hu F 0 (0 : Int32)), G) ((a1).toNatClampNeg)).2 25)) 0 0 47 [(0, .ref (ad 0)), (1, .int (a1)), (2, .int ((F 20))), (3, .int (nI (((a1).toNatClampNeg))))] []
        refine j_iload_n C0 dX7_pass_47 rfl ?_
        refine j_iload_n C0 dX7_pass_48 rfl ?_
        refine j_icmp_ge C0 62 dX7_pass_49 (by decide) (fun _ => ?_) (fun z => absurd (cl_le rfl) z)
        refine j_aload_n C0 dX7_pass_62 rfl ?_
        refine r_gf_20 C0 (v := ((nf (bX7_pass_47 F G a1) ((hu F 0 (0 : Int32)), G) ((a1).toNatClampNeg)).1 20)) dX7_pass_63 rfl ?_
        refine j_iload_n C0 dX7_pass_66 rfl ?_
        refine j_isub C0 dX7_pass_67 ?_
        exact j_iretE C0 rfl (by rw [vX7_pass, if_neg q1, if_pos q2]) dX7_pass_68 (fun H h => by rw [sX7_pass, if_neg q1, if_pos q2]; exact h)
    ·
      refine j_iconst C0 (v := 2) dX7_pass_27 (by decide) ?_
      refine j_goto C0 32 dX7_pass_28 (by decide) ?_
      refine j_callVv C0 (k_X7_holds hl ad F G ((2 : Int32)) ) mv_X7_holds wm_X7_85 (r_recv C0) rfl rfl ⟨Nat.le_of_ble_eq_true rfl, Nat.le_of_ble_eq_true rfl⟩ (Nat.le_of_ble_eq_true rfl) ⟨Nat.le_refl _, Nat.le_refl _⟩ dX7_pass_32 ?_
      refine j_top (0 : Int32) (by unfold vX7_holds; decide +kernel) ?_
      show J p l e _ s m args below meth c A 4 _ (OV D Y A ad (2 : Int32) (F 1) (F 5) (F 18) (F 19) (F 20) (G 2) (G 3) (G 4) (G 6) (G 7) (G 8) (G 9) (G 10) (G 11) (G 12) (G 13) (G 14) (G 15) (G 16) (G 17) (G 21) (G 22) (G 23) (G 24) (G 25)) 0 0 35 [(0, .ref (ad 0)), (1, .int (a1))] [.int ((0 : Int32))]
      refine j_if_ne C0 40 dX7_pass_35 (by decide) (fun z => absurd (by decide) z) (fun _ => ?_)
      refine j_iconst C0 (v := 0) dX7_pass_38 (by decide) ?_
      exact j_iretE C0 rfl (by rw [vX7_pass, if_neg q1, if_neg q2]) dX7_pass_39 (fun H h => by rw [sX7_pass, if_neg q1, if_neg q2]; exact h)
  ·
    refine j_iconst C0 (v := 1) dX7_pass_11 (by decide) ?_
    refine j_goto C0 32 dX7_pass_12 (by decide) ?_
    refine j_callVv C0 (k_X7_holds hl ad F G ((1 : Int32)) ) mv_X7_holds wm_X7_85 (r_recv C0) rfl rfl ⟨Nat.le_of_ble_eq_true rfl, Nat.le_of_ble_eq_true rfl⟩ (Nat.le_of_ble_eq_true rfl) ⟨Nat.le_refl _, Nat.le_refl _⟩ dX7_pass_32 ?_
    refine j_top (0 : Int32) (by unfold vX7_holds; decide +kernel) ?_
    show J p l e _ s m args below meth c A 4 _ (OV D Y A ad (1 : Int32) (F 1) (F 5) (F 18) (F 19) (F 20) (G 2) (G 3) (G 4) (G 6) (G 7) (G 8) (G 9) (G 10) (G 11) (G 12) (G 13) (G 14) (G 15) (G 16) (G 17) (G 21) (G 22) (G 23) (G 24) (G 25)) 0 0 35 [(0, .ref (ad 0)), (1, .int (a1))] [.int ((0 : Int32))]
    refine j_if_ne C0 40 dX7_pass_35 (by decide) (fun z => absurd (by decide) z) (fun _ => ?_)
    refine j_iconst C0 (v := 0) dX7_pass_38 (by decide) ?_
    exact j_iretE C0 rfl (by rw [vX7_pass, if_pos q1]) dX7_pass_39 (fun H h => by rw [sX7_pass, if_pos q1]; exact h)
end
