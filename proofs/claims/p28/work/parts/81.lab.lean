section
set_option maxRecDepth 100000 in
set_option maxHeartbeats 4000000 in
theorem k_L_areOrders {l : Launch} (hsl : l.stackTraces = false) {D : va_G} {Y : Nat → ClassId} {z tE mi ac ap : Nat} {ad : Nat → Nat} {t : Nat} (F : Nat → Int32) (G : Nat → Nat → Int32) (N : Nat → Nat) (Q : Nat → Nat → Nat) (cf pf : Nat → Int32) (hL : zL t F G N Q cf pf) : KM l yL_areOrders cL_areOrders 8 (some .boolean) D Y (fun q => z ≤ q) (EC (fun q => z ≤ q) tE mi) 10 300 20 120 [.ref (ad 0), .ref (ac), .ref (ap)] (LV D Y z tE ac ap ad F G N Q cf pf) (some (.int 1)) (LV D Y z tE ac ap ad F G N Q cf pf) := by
  refine KM_of RL [(0, .ref (ad 0)), (1, .ref (ac)), (2, .ref (ap))] rfl (by decide) hsl (Nat.le_of_ble_eq_true rfl) rfl (lok_of rfl rfl) ?_
  intro p e s m args below meth c C0
  have hn0 := hL.1.n0
  have h10 := hL.2.1.1
  refine j_iconst C0 (v := 1) dL_areOrders_0 (by decide) ?_
  refine j_istore_n C0 (L' := [(0, .ref (ad 0)), (1, .ref (ac)), (2, .ref (ap)), (3, .int ((1 : Int32)))]) dL_areOrders_1 (by decide) rfl ?_
  refine j_iconst C0 (v := 0) dL_areOrders_2 (by decide) ?_
  refine j_istore C0 (L' := [(0, .ref (ad 0)), (1, .ref (ac)), (2, .ref (ap)), (3, .int ((1 : Int32))), (4, .int ((0 : Int32)))]) dL_areOrders_3 (by decide) rfl ?_
  refine j_widen (k := 0 + 2 * 0) (n := 0 + 12 * 0) (by omega) (by omega) ?_
  refine j_castL (L' := [(0, .ref (ad 0)), (1, .ref (ac)), (2, .ref (ap)), (3, .int ((1 : Int32))), (4, .int (nI 0))]) (rfl) ?_
  refine l_loop (P := fun (kk : Nat) => J p l e _ s m args below meth c (fun q => z ≤ q) 8 _ (LV D Y z tE ac ap ad F G N Q cf pf) (0 + 2 * kk) (0 + 12 * kk) 5 [(0, .ref (ad 0)), (1, .ref (ac)), (2, .ref (ap)), (3, .int ((1 : Int32))), (4, .int (nI kk))] []) (N 0) ?_ (fun kk hkk K5 => ?_)
  rotate_left
  ·
    show J p l e _ s m args below meth c (fun q => z ≤ q) 8 _ (LV D Y z tE ac ap ad F G N Q cf pf) (0 + 2 * kk) (0 + 12 * kk) 5 [(0, .ref (ad 0)), (1, .ref (ac)), (2, .ref (ap)), (3, .int ((1 : Int32))), (4, .int (nI kk))] []
    replace K5 : J p l e _ s m args below meth c (fun q => z ≤ q) 8 _ (LV D Y z tE ac ap ad F G N Q cf pf) (0 + 2 * (kk + 1)) (0 + 12 * (kk + 1)) 5 [(0, .ref (ad 0)), (1, .ref (ac)), (2, .ref (ap)), (3, .int ((1 : Int32))), (4, .int (nI (kk + 1)))] [] := K5
    refine j_iload C0 dL_areOrders_5 rfl ?_
    refine j_aload_n C0 dL_areOrders_7 rfl ?_
    refine j_iconst C0 (v := 1) dL_areOrders_8 (by decide) ?_
    refine l_ldcN C0 (i := 1) (by omega) dL_areOrders_9 (v := nI (N 0)) hL.2.2.2.1 ?_
    refine j_icmp_ge C0 181 dL_areOrders_10 (by decide) (fun z9 => absurd z9 (nI_ge (by omega) (by omega))) (fun _ => ?_)
    refine j_iload_n C0 dL_areOrders_13 rfl ?_
    refine j_if_eq C0 181 dL_areOrders_14 (by decide) (fun z9 => absurd z9 (by decide)) (fun _ => ?_)
    refine j_iconst C0 (v := 0) dL_areOrders_17 (by decide) ?_
    refine j_istore C0 (L' := [(0, .ref (ad 0)), (1, .ref (ac)), (2, .ref (ap)), (3, .int ((1 : Int32))), (4, .int (nI kk)), (5, .int ((0 : Int32)))]) dL_areOrders_18 (by decide) rfl ?_
    refine j_iconst C0 (v := 0) dL_areOrders_20 (by decide) ?_
    refine j_istore C0 (L' := [(0, .ref (ad 0)), (1, .ref (ac)), (2, .ref (ap)), (3, .int ((1 : Int32))), (4, .int (nI kk)), (5, .int ((0 : Int32))), (6, .int ((0 : Int32)))]) dL_areOrders_21 (by decide) rfl ?_
    refine j_widen (k := 2 * kk) (n := 12 * kk) (by omega) (by omega) ?_
    refine j_castL (L' := [(0, .ref (ad 0)), (1, .ref (ac)), (2, .ref (ap)), (3, .int ((1 : Int32))), (4, .int (nI kk)), (5, .int (nI (zC (zAp pf kk) 0))), (6, .int (nI 0))]) (rfl) ?_
    refine l_loop (P := fun (jj : Nat) => J p l e _ s m args below meth c (fun q => z ≤ q) 8 _ (LV D Y z tE ac ap ad F G N Q cf pf) (2 * kk) (12 * kk) 23 [(0, .ref (ad 0)), (1, .ref (ac)), (2, .ref (ap)), (3, .int ((1 : Int32))), (4, .int (nI kk)), (5, .int (nI (zC (zAp pf kk) jj))), (6, .int (nI jj))] []) (N 0) ?_ (fun jj hjj K23 => ?_)
    rotate_left
    ·
      show J p l e _ s m args below meth c (fun q => z ≤ q) 8 _ (LV D Y z tE ac ap ad F G N Q cf pf) (2 * kk) (12 * kk) 23 [(0, .ref (ad 0)), (1, .ref (ac)), (2, .ref (ap)), (3, .int ((1 : Int32))), (4, .int (nI kk)), (5, .int (nI (zC (zAp pf kk) jj))), (6, .int (nI jj))] []
      replace K23 : J p l e _ s m args below meth c (fun q => z ≤ q) 8 _ (LV D Y z tE ac ap ad F G N Q cf pf) (2 * kk) (12 * kk) 23 [(0, .ref (ad 0)), (1, .ref (ac)), (2, .ref (ap)), (3, .int ((1 : Int32))), (4, .int (nI kk)), (5, .int (nI (zC (zAp pf kk) (jj + 1)))), (6, .int (nI (jj + 1)))] [] := K23
      refine j_iload C0 dL_areOrders_23 rfl ?_
      refine j_aload_n C0 dL_areOrders_25 rfl ?_
      refine j_iconst C0 (v := 1) dL_areOrders_26 (by decide) ?_
      refine l_ldcN C0 (i := 1) (by omega) dL_areOrders_27 (v := nI (N 0)) hL.2.2.2.1 ?_
      refine j_icmp_ge C0 144 dL_areOrders_28 (by decide) (fun z9 => absurd z9 (nI_ge (by omega) (by omega))) (fun _ => ?_)
      refine j_aload_n C0 dL_areOrders_31 rfl ?_
      refine j_bipush C0 (v := 20) dL_areOrders_32 (by decide) ?_
      refine j_iload C0 dL_areOrders_34 rfl ?_
      refine j_iadd C0 dL_areOrders_36 ?_
      refine j_top (nI (20 + jj)) (nI_add 20 jj) ?_
      refine l_ldpN C0 (i := 20 + jj) (by omega) dL_areOrders_37 (v := pf (20 + jj)) rfl ?_
      refine j_aload_n C0 dL_areOrders_38 rfl ?_
      refine j_bipush C0 (v := 20) dL_areOrders_39 (by decide) ?_
      refine j_iload C0 dL_areOrders_41 rfl ?_
      refine j_iadd C0 dL_areOrders_43 ?_
      refine j_top (nI (20 + kk)) (nI_add 20 kk) ?_
      refine l_ldpN C0 (i := 20 + kk) (by omega) dL_areOrders_44 (v := pf (20 + kk)) rfl ?_
      refine j_icmp_gt C0 106 dL_areOrders_45 (by decide) (fun (q1 : pf (20 + kk) < pf (20 + jj)) => ?_) (fun (q1 : ¬ (pf (20 + kk) < pf (20 + jj))) => ?_)
      ·
        refine j_iconst C0 (v := 1) dL_areOrders_106 (by decide) ?_
        refine j_goto C0 111 dL_areOrders_107 (by decide) ?_
        refine j_istore C0 (L' := [(0, .ref (ad 0)), (1, .ref (ac)), (2, .ref (ap)), (3, .int ((1 : Int32))), (4, .int (nI kk)), (5, .int (nI (zC (zAp pf kk) jj))), (6, .int (nI jj)), (7, .int ((1 : Int32)))]) dL_areOrders_111 (by decide) rfl ?_
        refine j_iload C0 dL_areOrders_113 rfl ?_
        refine j_aload_n C0 dL_areOrders_115 rfl ?_
        refine j_bipush C0 (v := 50) dL_areOrders_116 (by decide) ?_
        refine j_iload C0 dL_areOrders_118 rfl ?_
        refine j_iadd C0 dL_areOrders_120 ?_
        refine j_top (nI (50 + jj)) (nI_add 50 jj) ?_
        refine l_ldpN C0 (i := 50 + jj) (by omega) dL_areOrders_121 (v := pf (50 + jj)) rfl ?_
        refine j_if_le C0 134 dL_areOrders_122 (by decide) (fun (q2 : pf (50 + jj) ≤ 0) => ?_) (fun (q2 : ¬ (pf (50 + jj) ≤ 0)) => ?_)
        ·
          refine j_iconst C0 (v := 0) dL_areOrders_134 (by decide) ?_
          refine j_iadd C0 dL_areOrders_135 ?_
          refine j_top (nI (zC (zAp pf kk) (jj + 1))) (zC_fI (show zAp pf kk jj = false from decide_eq_false (by have t1 := nI_toInt (n := jj) (by omega); have t2 := nI_toInt (n := kk) (by omega); have t3 : (0 : Int32).toInt = 0 := rfl; simp only [Int32.lt_iff_toInt_lt, Int32.le_iff_toInt_le, ← Int32.toInt_inj] at q1 q2 ⊢; omega))) ?_
          refine j_istore C0 (L' := [(0, .ref (ad 0)), (1, .ref (ac)), (2, .ref (ap)), (3, .int ((1 : Int32))), (4, .int (nI kk)), (5, .int (nI (zC (zAp pf kk) (jj + 1)))), (6, .int (nI jj)), (7, .int ((1 : Int32)))]) dL_areOrders_136 (by decide) rfl ?_
          refine j_iinc C0 (v := nI (jj + 1)) (L' := [(0, .ref (ad 0)), (1, .ref (ac)), (2, .ref (ap)), (3, .int ((1 : Int32))), (4, .int (nI kk)), (5, .int (nI (zC (zAp pf kk) (jj + 1)))), (6, .int (nI (jj + 1))), (7, .int ((1 : Int32)))]) dL_areOrders_138 rfl (nI_inc jj) (by decide) rfl ?_
          refine j_goto C0 23 dL_areOrders_141 (by decide) ?_
          refine j_widen (k := 2 * kk) (n := 12 * kk) (by omega) (by omega) ?_
          refine j_locals (L' := [(0, .ref (ad 0)), (1, .ref (ac)), (2, .ref (ap)), (3, .int ((1 : Int32))), (4, .int (nI kk)), (5, .int (nI (zC (zAp pf kk) (jj + 1)))), (6, .int (nI (jj + 1)))]) (fun q hq => by simp only [List.mem_cons, List.mem_nil_iff, or_false] at hq ⊢; rcases hq with rfl | rfl | rfl | rfl | rfl | rfl | rfl <;> simp) (lok_of rfl rfl) ?_
          exact K23
        ·
          refine j_iload C0 dL_areOrders_125 rfl ?_
          refine j_if_eq C0 134 dL_areOrders_127 (by decide) (fun z9 => absurd z9 (by decide)) (fun _ => ?_)
          refine j_iconst C0 (v := 1) dL_areOrders_130 (by decide) ?_
          refine j_goto C0 135 dL_areOrders_131 (by decide) ?_
          refine j_iadd C0 dL_areOrders_135 ?_
          refine j_top (nI (zC (zAp pf kk) (jj + 1))) (zC_tI (show zAp pf kk jj = true from decide_eq_true (by have t1 := nI_toInt (n := jj) (by omega); have t2 := nI_toInt (n := kk) (by omega); have t3 : (0 : Int32).toInt = 0 := rfl; simp only [Int32.lt_iff_toInt_lt, Int32.le_iff_toInt_le, ← Int32.toInt_inj] at q1 q2 ⊢; omega))) ?_
          refine j_istore C0 (L' := [(0, .ref (ad 0)), (1, .ref (ac)), (2, .ref (ap)), (3, .int ((1 : Int32))), (4, .int (nI kk)), (5, .int (nI (zC (zAp pf kk) (jj + 1)))), (6, .int (nI jj)), (7, .int ((1 : Int32)))]) dL_areOrders_136 (by decide) rfl ?_
          refine j_iinc C0 (v := nI (jj + 1)) (L' := [(0, .ref (ad 0)), (1, .ref (ac)), (2, .ref (ap)), (3, .int ((1 : Int32))), (4, .int (nI kk)), (5, .int (nI (zC (zAp pf kk) (jj + 1)))), (6, .int (nI (jj + 1))), (7, .int ((1 : Int32)))]) dL_areOrders_138 rfl (nI_inc jj) (by decide) rfl ?_
          refine j_goto C0 23 dL_areOrders_141 (by decide) ?_
          refine j_widen (k := 2 * kk) (n := 12 * kk) (by omega) (by omega) ?_
          refine j_locals (L' := [(0, .ref (ad 0)), (1, .ref (ac)), (2, .ref (ap)), (3, .int ((1 : Int32))), (4, .int (nI kk)), (5, .int (nI (zC (zAp pf kk) (jj + 1)))), (6, .int (nI (jj + 1)))]) (fun q hq => by simp only [List.mem_cons, List.mem_nil_iff, or_false] at hq ⊢; rcases hq with rfl | rfl | rfl | rfl | rfl | rfl | rfl <;> simp) (lok_of rfl rfl) ?_
          exact K23
      ·
        refine j_aload_n C0 dL_areOrders_48 rfl ?_
        refine j_bipush C0 (v := 20) dL_areOrders_49 (by decide) ?_
        refine j_iload C0 dL_areOrders_51 rfl ?_
        refine j_iadd C0 dL_areOrders_53 ?_
        refine j_top (nI (20 + jj)) (nI_add 20 jj) ?_
        refine l_ldpN C0 (i := 20 + jj) (by omega) dL_areOrders_54 (v := pf (20 + jj)) rfl ?_
        refine j_aload_n C0 dL_areOrders_55 rfl ?_
        refine j_bipush C0 (v := 20) dL_areOrders_56 (by decide) ?_
        refine j_iload C0 dL_areOrders_58 rfl ?_
        refine j_iadd C0 dL_areOrders_60 ?_
        refine j_top (nI (20 + kk)) (nI_add 20 kk) ?_
        refine l_ldpN C0 (i := 20 + kk) (by omega) dL_areOrders_61 (v := pf (20 + kk)) rfl ?_
        refine j_icmp_ne C0 110 dL_areOrders_62 (by decide) (fun (q3 : ¬ (pf (20 + jj) = pf (20 + kk))) => ?_) (fun (q3 : pf (20 + jj) = pf (20 + kk)) => ?_)
        ·
          refine j_iconst C0 (v := 0) dL_areOrders_110 (by decide) ?_
          refine j_istore C0 (L' := [(0, .ref (ad 0)), (1, .ref (ac)), (2, .ref (ap)), (3, .int ((1 : Int32))), (4, .int (nI kk)), (5, .int (nI (zC (zAp pf kk) jj))), (6, .int (nI jj)), (7, .int ((0 : Int32)))]) dL_areOrders_111 (by decide) rfl ?_
          refine j_iload C0 dL_areOrders_113 rfl ?_
          refine j_aload_n C0 dL_areOrders_115 rfl ?_
          refine j_bipush C0 (v := 50) dL_areOrders_116 (by decide) ?_
          refine j_iload C0 dL_areOrders_118 rfl ?_
          refine j_iadd C0 dL_areOrders_120 ?_
          refine j_top (nI (50 + jj)) (nI_add 50 jj) ?_
          refine l_ldpN C0 (i := 50 + jj) (by omega) dL_areOrders_121 (v := pf (50 + jj)) rfl ?_
          refine j_if_le C0 134 dL_areOrders_122 (by decide) (fun (q4 : pf (50 + jj) ≤ 0) => ?_) (fun (q4 : ¬ (pf (50 + jj) ≤ 0)) => ?_)
          ·
            refine j_iconst C0 (v := 0) dL_areOrders_134 (by decide) ?_
            refine j_iadd C0 dL_areOrders_135 ?_
            refine j_top (nI (zC (zAp pf kk) (jj + 1))) (zC_fI (show zAp pf kk jj = false from decide_eq_false (by have t1 := nI_toInt (n := jj) (by omega); have t2 := nI_toInt (n := kk) (by omega); have t3 : (0 : Int32).toInt = 0 := rfl; simp only [Int32.lt_iff_toInt_lt, Int32.le_iff_toInt_le, ← Int32.toInt_inj] at q1 q3 q4 ⊢; omega))) ?_
            refine j_istore C0 (L' := [(0, .ref (ad 0)), (1, .ref (ac)), (2, .ref (ap)), (3, .int ((1 : Int32))), (4, .int (nI kk)), (5, .int (nI (zC (zAp pf kk) (jj + 1)))), (6, .int (nI jj)), (7, .int ((0 : Int32)))]) dL_areOrders_136 (by decide) rfl ?_
            refine j_iinc C0 (v := nI (jj + 1)) (L' := [(0, .ref (ad 0)), (1, .ref (ac)), (2, .ref (ap)), (3, .int ((1 : Int32))), (4, .int (nI kk)), (5, .int (nI (zC (zAp pf kk) (jj + 1)))), (6, .int (nI (jj + 1))), (7, .int ((0 : Int32)))]) dL_areOrders_138 rfl (nI_inc jj) (by decide) rfl ?_
            refine j_goto C0 23 dL_areOrders_141 (by decide) ?_
            refine j_widen (k := 2 * kk) (n := 12 * kk) (by omega) (by omega) ?_
            refine j_locals (L' := [(0, .ref (ad 0)), (1, .ref (ac)), (2, .ref (ap)), (3, .int ((1 : Int32))), (4, .int (nI kk)), (5, .int (nI (zC (zAp pf kk) (jj + 1)))), (6, .int (nI (jj + 1)))]) (fun q hq => by simp only [List.mem_cons, List.mem_nil_iff, or_false] at hq ⊢; rcases hq with rfl | rfl | rfl | rfl | rfl | rfl | rfl <;> simp) (lok_of rfl rfl) ?_
            exact K23
          ·
            refine j_iload C0 dL_areOrders_125 rfl ?_
            refine j_if_eq C0 134 dL_areOrders_127 (by decide) (fun _ => ?_) (fun z9 => absurd (by decide) z9)
            refine j_iconst C0 (v := 0) dL_areOrders_134 (by decide) ?_
            refine j_iadd C0 dL_areOrders_135 ?_
            refine j_top (nI (zC (zAp pf kk) (jj + 1))) (zC_fI (show zAp pf kk jj = false from decide_eq_false (by have t1 := nI_toInt (n := jj) (by omega); have t2 := nI_toInt (n := kk) (by omega); have t3 : (0 : Int32).toInt = 0 := rfl; simp only [Int32.lt_iff_toInt_lt, Int32.le_iff_toInt_le, ← Int32.toInt_inj] at q1 q3 q4 ⊢; omega))) ?_
            refine j_istore C0 (L' := [(0, .ref (ad 0)), (1, .ref (ac)), (2, .ref (ap)), (3, .int ((1 : Int32))), (4, .int (nI kk)), (5, .int (nI (zC (zAp pf kk) (jj + 1)))), (6, .int (nI jj)), (7, .int ((0 : Int32)))]) dL_areOrders_136 (by decide) rfl ?_
            refine j_iinc C0 (v := nI (jj + 1)) (L' := [(0, .ref (ad 0)), (1, .ref (ac)), (2, .ref (ap)), (3, .int ((1 : Int32))), (4, .int (nI kk)), (5, .int (nI (zC (zAp pf kk) (jj + 1)))), (6, .int (nI (jj + 1))), (7, .int ((0 : Int32)))]) dL_areOrders_138 rfl (nI_inc jj) (by decide) rfl ?_
            refine j_goto C0 23 dL_areOrders_141 (by decide) ?_
            refine j_widen (k := 2 * kk) (n := 12 * kk) (by omega) (by omega) ?_
            refine j_locals (L' := [(0, .ref (ad 0)), (1, .ref (ac)), (2, .ref (ap)), (3, .int ((1 : Int32))), (4, .int (nI kk)), (5, .int (nI (zC (zAp pf kk) (jj + 1)))), (6, .int (nI (jj + 1)))]) (fun q hq => by simp only [List.mem_cons, List.mem_nil_iff, or_false] at hq ⊢; rcases hq with rfl | rfl | rfl | rfl | rfl | rfl | rfl <;> simp) (lok_of rfl rfl) ?_
            exact K23
        ·
          refine j_aload_n C0 dL_areOrders_65 rfl ?_
          refine j_bipush C0 (v := 50) dL_areOrders_66 (by decide) ?_
          refine j_iload C0 dL_areOrders_68 rfl ?_
          refine j_iadd C0 dL_areOrders_70 ?_
          refine j_top (nI (50 + jj)) (nI_add 50 jj) ?_
          refine l_ldpN C0 (i := 50 + jj) (by omega) dL_areOrders_71 (v := pf (50 + jj)) rfl ?_
          refine j_aload_n C0 dL_areOrders_72 rfl ?_
          refine j_bipush C0 (v := 50) dL_areOrders_73 (by decide) ?_
          refine j_iload C0 dL_areOrders_75 rfl ?_
          refine j_iadd C0 dL_areOrders_77 ?_
          refine j_top (nI (50 + kk)) (nI_add 50 kk) ?_
          refine l_ldpN C0 (i := 50 + kk) (by omega) dL_areOrders_78 (v := pf (50 + kk)) rfl ?_
          refine j_icmp_lt C0 106 dL_areOrders_79 (by decide) (fun (q5 : pf (50 + jj) < pf (50 + kk)) => ?_) (fun (q5 : ¬ (pf (50 + jj) < pf (50 + kk))) => ?_)
          ·
            refine j_iconst C0 (v := 1) dL_areOrders_106 (by decide) ?_
            refine j_goto C0 111 dL_areOrders_107 (by decide) ?_
            refine j_istore C0 (L' := [(0, .ref (ad 0)), (1, .ref (ac)), (2, .ref (ap)), (3, .int ((1 : Int32))), (4, .int (nI kk)), (5, .int (nI (zC (zAp pf kk) jj))), (6, .int (nI jj)), (7, .int ((1 : Int32)))]) dL_areOrders_111 (by decide) rfl ?_
            refine j_iload C0 dL_areOrders_113 rfl ?_
            refine j_aload_n C0 dL_areOrders_115 rfl ?_
            refine j_bipush C0 (v := 50) dL_areOrders_116 (by decide) ?_
            refine j_iload C0 dL_areOrders_118 rfl ?_
            refine j_iadd C0 dL_areOrders_120 ?_
            refine j_top (nI (50 + jj)) (nI_add 50 jj) ?_
            refine l_ldpN C0 (i := 50 + jj) (by omega) dL_areOrders_121 (v := pf (50 + jj)) rfl ?_
            refine j_if_le C0 134 dL_areOrders_122 (by decide) (fun (q6 : pf (50 + jj) ≤ 0) => ?_) (fun (q6 : ¬ (pf (50 + jj) ≤ 0)) => ?_)
            ·
              refine j_iconst C0 (v := 0) dL_areOrders_134 (by decide) ?_
              refine j_iadd C0 dL_areOrders_135 ?_
              refine j_top (nI (zC (zAp pf kk) (jj + 1))) (zC_fI (show zAp pf kk jj = false from decide_eq_false (by have t1 := nI_toInt (n := jj) (by omega); have t2 := nI_toInt (n := kk) (by omega); have t3 : (0 : Int32).toInt = 0 := rfl; simp only [Int32.lt_iff_toInt_lt, Int32.le_iff_toInt_le, ← Int32.toInt_inj] at q1 q3 q5 q6 ⊢; omega))) ?_
              refine j_istore C0 (L' := [(0, .ref (ad 0)), (1, .ref (ac)), (2, .ref (ap)), (3, .int ((1 : Int32))), (4, .int (nI kk)), (5, .int (nI (zC (zAp pf kk) (jj + 1)))), (6, .int (nI jj)), (7, .int ((1 : Int32)))]) dL_areOrders_136 (by decide) rfl ?_
              refine j_iinc C0 (v := nI (jj + 1)) (L' := [(0, .ref (ad 0)), (1, .ref (ac)), (2, .ref (ap)), (3, .int ((1 : Int32))), (4, .int (nI kk)), (5, .int (nI (zC (zAp pf kk) (jj + 1)))), (6, .int (nI (jj + 1))), (7, .int ((1 : Int32)))]) dL_areOrders_138 rfl (nI_inc jj) (by decide) rfl ?_
              refine j_goto C0 23 dL_areOrders_141 (by decide) ?_
              refine j_widen (k := 2 * kk) (n := 12 * kk) (by omega) (by omega) ?_
              refine j_locals (L' := [(0, .ref (ad 0)), (1, .ref (ac)), (2, .ref (ap)), (3, .int ((1 : Int32))), (4, .int (nI kk)), (5, .int (nI (zC (zAp pf kk) (jj + 1)))), (6, .int (nI (jj + 1)))]) (fun q hq => by simp only [List.mem_cons, List.mem_nil_iff, or_false] at hq ⊢; rcases hq with rfl | rfl | rfl | rfl | rfl | rfl | rfl <;> simp) (lok_of rfl rfl) ?_
              exact K23
            ·
              refine j_iload C0 dL_areOrders_125 rfl ?_
              refine j_if_eq C0 134 dL_areOrders_127 (by decide) (fun z9 => absurd z9 (by decide)) (fun _ => ?_)
              refine j_iconst C0 (v := 1) dL_areOrders_130 (by decide) ?_
              refine j_goto C0 135 dL_areOrders_131 (by decide) ?_
              refine j_iadd C0 dL_areOrders_135 ?_
              refine j_top (nI (zC (zAp pf kk) (jj + 1))) (zC_tI (show zAp pf kk jj = true from decide_eq_true (by have t1 := nI_toInt (n := jj) (by omega); have t2 := nI_toInt (n := kk) (by omega); have t3 : (0 : Int32).toInt = 0 := rfl; simp only [Int32.lt_iff_toInt_lt, Int32.le_iff_toInt_le, ← Int32.toInt_inj] at q1 q3 q5 q6 ⊢; omega))) ?_
              refine j_istore C0 (L' := [(0, .ref (ad 0)), (1, .ref (ac)), (2, .ref (ap)), (3, .int ((1 : Int32))), (4, .int (nI kk)), (5, .int (nI (zC (zAp pf kk) (jj + 1)))), (6, .int (nI jj)), (7, .int ((1 : Int32)))]) dL_areOrders_136 (by decide) rfl ?_
              refine j_iinc C0 (v := nI (jj + 1)) (L' := [(0, .ref (ad 0)), (1, .ref (ac)), (2, .ref (ap)), (3, .int ((1 : Int32))), (4, .int (nI kk)), (5, .int (nI (zC (zAp pf kk) (jj + 1)))), (6, .int (nI (jj + 1))), (7, .int ((1 : Int32)))]) dL_areOrders_138 rfl (nI_inc jj) (by decide) rfl ?_
              refine j_goto C0 23 dL_areOrders_141 (by decide) ?_
              refine j_widen (k := 2 * kk) (n := 12 * kk) (by omega) (by omega) ?_
              refine j_locals (L' := [(0, .ref (ad 0)), (1, .ref (ac)), (2, .ref (ap)), (3, .int ((1 : Int32))), (4, .int (nI kk)), (5, .int (nI (zC (zAp pf kk) (jj + 1)))), (6, .int (nI (jj + 1)))]) (fun q hq => by simp only [List.mem_cons, List.mem_nil_iff, or_false] at hq ⊢; rcases hq with rfl | rfl | rfl | rfl | rfl | rfl | rfl <;> simp) (lok_of rfl rfl) ?_
              exact K23
          ·
            refine j_aload_n C0 dL_areOrders_82 rfl ?_
            refine j_bipush C0 (v := 50) dL_areOrders_83 (by decide) ?_
            refine j_iload C0 dL_areOrders_85 rfl ?_
            refine j_iadd C0 dL_areOrders_87 ?_
            refine j_top (nI (50 + jj)) (nI_add 50 jj) ?_
            refine l_ldpN C0 (i := 50 + jj) (by omega) dL_areOrders_88 (v := pf (50 + jj)) rfl ?_
            refine j_aload_n C0 dL_areOrders_89 rfl ?_
            refine j_bipush C0 (v := 50) dL_areOrders_90 (by decide) ?_
            refine j_iload C0 dL_areOrders_92 rfl ?_
            refine j_iadd C0 dL_areOrders_94 ?_
            refine j_top (nI (50 + kk)) (nI_add 50 kk) ?_
            refine l_ldpN C0 (i := 50 + kk) (by omega) dL_areOrders_95 (v := pf (50 + kk)) rfl ?_
            refine j_icmp_ne C0 110 dL_areOrders_96 (by decide) (fun (q7 : ¬ (pf (50 + jj) = pf (50 + kk))) => ?_) (fun (q7 : pf (50 + jj) = pf (50 + kk)) => ?_)
            ·
              refine j_iconst C0 (v := 0) dL_areOrders_110 (by decide) ?_
              refine j_istore C0 (L' := [(0, .ref (ad 0)), (1, .ref (ac)), (2, .ref (ap)), (3, .int ((1 : Int32))), (4, .int (nI kk)), (5, .int (nI (zC (zAp pf kk) jj))), (6, .int (nI jj)), (7, .int ((0 : Int32)))]) dL_areOrders_111 (by decide) rfl ?_
              refine j_iload C0 dL_areOrders_113 rfl ?_
              refine j_aload_n C0 dL_areOrders_115 rfl ?_
              refine j_bipush C0 (v := 50) dL_areOrders_116 (by decide) ?_
              refine j_iload C0 dL_areOrders_118 rfl ?_
              refine j_iadd C0 dL_areOrders_120 ?_
              refine j_top (nI (50 + jj)) (nI_add 50 jj) ?_
              refine l_ldpN C0 (i := 50 + jj) (by omega) dL_areOrders_121 (v := pf (50 + jj)) rfl ?_
              refine j_if_le C0 134 dL_areOrders_122 (by decide) (fun (q8 : pf (50 + jj) ≤ 0) => ?_) (fun (q8 : ¬ (pf (50 + jj) ≤ 0)) => ?_)
              ·
                refine j_iconst C0 (v := 0) dL_areOrders_134 (by decide) ?_
                refine j_iadd C0 dL_areOrders_135 ?_
                refine j_top (nI (zC (zAp pf kk) (jj + 1))) (zC_fI (show zAp pf kk jj = false from decide_eq_false (by have t1 := nI_toInt (n := jj) (by omega); have t2 := nI_toInt (n := kk) (by omega); have t3 : (0 : Int32).toInt = 0 := rfl; simp only [Int32.lt_iff_toInt_lt, Int32.le_iff_toInt_le, ← Int32.toInt_inj] at q1 q3 q5 q7 q8 ⊢; omega))) ?_
                refine j_istore C0 (L' := [(0, .ref (ad 0)), (1, .ref (ac)), (2, .ref (ap)), (3, .int ((1 : Int32))), (4, .int (nI kk)), (5, .int (nI (zC (zAp pf kk) (jj + 1)))), (6, .int (nI jj)), (7, .int ((0 : Int32)))]) dL_areOrders_136 (by decide) rfl ?_
                refine j_iinc C0 (v := nI (jj + 1)) (L' := [(0, .ref (ad 0)), (1, .ref (ac)), (2, .ref (ap)), (3, .int ((1 : Int32))), (4, .int (nI kk)), (5, .int (nI (zC (zAp pf kk) (jj + 1)))), (6, .int (nI (jj + 1))), (7, .int ((0 : Int32)))]) dL_areOrders_138 rfl (nI_inc jj) (by decide) rfl ?_
                refine j_goto C0 23 dL_areOrders_141 (by decide) ?_
                refine j_widen (k := 2 * kk) (n := 12 * kk) (by omega) (by omega) ?_
                refine j_locals (L' := [(0, .ref (ad 0)), (1, .ref (ac)), (2, .ref (ap)), (3, .int ((1 : Int32))), (4, .int (nI kk)), (5, .int (nI (zC (zAp pf kk) (jj + 1)))), (6, .int (nI (jj + 1)))]) (fun q hq => by simp only [List.mem_cons, List.mem_nil_iff, or_false] at hq ⊢; rcases hq with rfl | rfl | rfl | rfl | rfl | rfl | rfl <;> simp) (lok_of rfl rfl) ?_
                exact K23
              ·
                refine j_iload C0 dL_areOrders_125 rfl ?_
                refine j_if_eq C0 134 dL_areOrders_127 (by decide) (fun _ => ?_) (fun z9 => absurd (by decide) z9)
                refine j_iconst C0 (v := 0) dL_areOrders_134 (by decide) ?_
                refine j_iadd C0 dL_areOrders_135 ?_
                refine j_top (nI (zC (zAp pf kk) (jj + 1))) (zC_fI (show zAp pf kk jj = false from decide_eq_false (by have t1 := nI_toInt (n := jj) (by omega); have t2 := nI_toInt (n := kk) (by omega); have t3 : (0 : Int32).toInt = 0 := rfl; simp only [Int32.lt_iff_toInt_lt, Int32.le_iff_toInt_le, ← Int32.toInt_inj] at q1 q3 q5 q7 q8 ⊢; omega))) ?_
                refine j_istore C0 (L' := [(0, .ref (ad 0)), (1, .ref (ac)), (2, .ref (ap)), (3, .int ((1 : Int32))), (4, .int (nI kk)), (5, .int (nI (zC (zAp pf kk) (jj + 1)))), (6, .int (nI jj)), (7, .int ((0 : Int32)))]) dL_areOrders_136 (by decide) rfl ?_
                refine j_iinc C0 (v := nI (jj + 1)) (L' := [(0, .ref (ad 0)), (1, .ref (ac)), (2, .ref (ap)), (3, .int ((1 : Int32))), (4, .int (nI kk)), (5, .int (nI (zC (zAp pf kk) (jj + 1)))), (6, .int (nI (jj + 1))), (7, .int ((0 : Int32)))]) dL_areOrders_138 rfl (nI_inc jj) (by decide) rfl ?_
                refine j_goto C0 23 dL_areOrders_141 (by decide) ?_
                refine j_widen (k := 2 * kk) (n := 12 * kk) (by omega) (by omega) ?_
                refine j_locals (L' := [(0, .ref (ad 0)), (1, .ref (ac)), (2, .ref (ap)), (3, .int ((1 : Int32))), (4, .int (nI kk)), (5, .int (nI (zC (zAp pf kk) (jj + 1)))), (6, .int (nI (jj + 1)))]) (fun q hq => by simp only [List.mem_cons, List.mem_nil_iff, or_false] at hq ⊢; rcases hq with rfl | rfl | rfl | rfl | rfl | rfl | rfl <;> simp) (lok_of rfl rfl) ?_
                exact K23
            ·
              refine j_iload C0 dL_areOrders_99 rfl ?_
              refine j_iload C0 dL_areOrders_101 rfl ?_
              refine j_icmp_ge C0 110 dL_areOrders_103 (by decide) (fun (q9 : nI kk ≤ nI jj) => ?_) (fun (q9 : ¬ (nI kk ≤ nI jj)) => ?_)
              ·
                refine j_iconst C0 (v := 0) dL_areOrders_110 (by decide) ?_
                refine j_istore C0 (L' := [(0, .ref (ad 0)), (1, .ref (ac)), (2, .ref (ap)), (3, .int ((1 : Int32))), (4, .int (nI kk)), (5, .int (nI (zC (zAp pf kk) jj))), (6, .int (nI jj)), (7, .int ((0 : Int32)))]) dL_areOrders_111 (by decide) rfl ?_
                refine j_iload C0 dL_areOrders_113 rfl ?_
                refine j_aload_n C0 dL_areOrders_115 rfl ?_
                refine j_bipush C0 (v := 50) dL_areOrders_116 (by decide) ?_
                refine j_iload C0 dL_areOrders_118 rfl ?_
                refine j_iadd C0 dL_areOrders_120 ?_
                refine j_top (nI (50 + jj)) (nI_add 50 jj) ?_
                refine l_ldpN C0 (i := 50 + jj) (by omega) dL_areOrders_121 (v := pf (50 + jj)) rfl ?_
                refine j_if_le C0 134 dL_areOrders_122 (by decide) (fun (q10 : pf (50 + jj) ≤ 0) => ?_) (fun (q10 : ¬ (pf (50 + jj) ≤ 0)) => ?_)
                ·
                  refine j_iconst C0 (v := 0) dL_areOrders_134 (by decide) ?_
                  refine j_iadd C0 dL_areOrders_135 ?_
                  refine j_top (nI (zC (zAp pf kk) (jj + 1))) (zC_fI (show zAp pf kk jj = false from decide_eq_false (by have t1 := nI_toInt (n := jj) (by omega); have t2 := nI_toInt (n := kk) (by omega); have t3 : (0 : Int32).toInt = 0 := rfl; simp only [Int32.lt_iff_toInt_lt, Int32.le_iff_toInt_le, ← Int32.toInt_inj] at q1 q3 q5 q7 q9 q10 ⊢; omega))) ?_
                  refine j_istore C0 (L' := [(0, .ref (ad 0)), (1, .ref (ac)), (2, .ref (ap)), (3, .int ((1 : Int32))), (4, .int (nI kk)), (5, .int (nI (zC (zAp pf kk) (jj + 1)))), (6, .int (nI jj)), (7, .int ((0 : Int32)))]) dL_areOrders_136 (by decide) rfl ?_
                  refine j_iinc C0 (v := nI (jj + 1)) (L' := [(0, .ref (ad 0)), (1, .ref (ac)), (2, .ref (ap)), (3, .int ((1 : Int32))), (4, .int (nI kk)), (5, .int (nI (zC (zAp pf kk) (jj + 1)))), (6, .int (nI (jj + 1))), (7, .int ((0 : Int32)))]) dL_areOrders_138 rfl (nI_inc jj) (by decide) rfl ?_
                  refine j_goto C0 23 dL_areOrders_141 (by decide) ?_
                  refine j_widen (k := 2 * kk) (n := 12 * kk) (by omega) (by omega) ?_
                  refine j_locals (L' := [(0, .ref (ad 0)), (1, .ref (ac)), (2, .ref (ap)), (3, .int ((1 : Int32))), (4, .int (nI kk)), (5, .int (nI (zC (zAp pf kk) (jj + 1)))), (6, .int (nI (jj + 1)))]) (fun q hq => by simp only [List.mem_cons, List.mem_nil_iff, or_false] at hq ⊢; rcases hq with rfl | rfl | rfl | rfl | rfl | rfl | rfl <;> simp) (lok_of rfl rfl) ?_
                  exact K23
                ·
                  refine j_iload C0 dL_areOrders_125 rfl ?_
                  refine j_if_eq C0 134 dL_areOrders_127 (by decide) (fun _ => ?_) (fun z9 => absurd (by decide) z9)
                  refine j_iconst C0 (v := 0) dL_areOrders_134 (by decide) ?_
                  refine j_iadd C0 dL_areOrders_135 ?_
                  refine j_top (nI (zC (zAp pf kk) (jj + 1))) (zC_fI (show zAp pf kk jj = false from decide_eq_false (by have t1 := nI_toInt (n := jj) (by omega); have t2 := nI_toInt (n := kk) (by omega); have t3 : (0 : Int32).toInt = 0 := rfl; simp only [Int32.lt_iff_toInt_lt, Int32.le_iff_toInt_le, ← Int32.toInt_inj] at q1 q3 q5 q7 q9 q10 ⊢; omega))) ?_
                  refine j_istore C0 (L' := [(0, .ref (ad 0)), (1, .ref (ac)), (2, .ref (ap)), (3, .int ((1 : Int32))), (4, .int (nI kk)), (5, .int (nI (zC (zAp pf kk) (jj + 1)))), (6, .int (nI jj)), (7, .int ((0 : Int32)))]) dL_areOrders_136 (by decide) rfl ?_
                  refine j_iinc C0 (v := nI (jj + 1)) (L' := [(0, .ref (ad 0)), (1, .ref (ac)), (2, .ref (ap)), (3, .int ((1 : Int32))), (4, .int (nI kk)), (5, .int (nI (zC (zAp pf kk) (jj + 1)))), (6, .int (nI (jj + 1))), (7, .int ((0 : Int32)))]) dL_areOrders_138 rfl (nI_inc jj) (by decide) rfl ?_
                  refine j_goto C0 23 dL_areOrders_141 (by decide) ?_
                  refine j_widen (k := 2 * kk) (n := 12 * kk) (by omega) (by omega) ?_
                  refine j_locals (L' := [(0, .ref (ad 0)), (1, .ref (ac)), (2, .ref (ap)), (3, .int ((1 : Int32))), (4, .int (nI kk)), (5, .int (nI (zC (zAp pf kk) (jj + 1)))), (6, .int (nI (jj + 1)))]) (fun q hq => by simp only [List.mem_cons, List.mem_nil_iff, or_false] at hq ⊢; rcases hq with rfl | rfl | rfl | rfl | rfl | rfl | rfl <;> simp) (lok_of rfl rfl) ?_
                  exact K23
              ·
                refine j_iconst C0 (v := 1) dL_areOrders_106 (by decide) ?_
                refine j_goto C0 111 dL_areOrders_107 (by decide) ?_
                refine j_istore C0 (L' := [(0, .ref (ad 0)), (1, .ref (ac)), (2, .ref (ap)), (3, .int ((1 : Int32))), (4, .int (nI kk)), (5, .int (nI (zC (zAp pf kk) jj))), (6, .int (nI jj)), (7, .int ((1 : Int32)))]) dL_areOrders_111 (by decide) rfl ?_
                refine j_iload C0 dL_areOrders_113 rfl ?_
                refine j_aload_n C0 dL_areOrders_115 rfl ?_
                refine j_bipush C0 (v := 50) dL_areOrders_116 (by decide) ?_
                refine j_iload C0 dL_areOrders_118 rfl ?_
                refine j_iadd C0 dL_areOrders_120 ?_
                refine j_top (nI (50 + jj)) (nI_add 50 jj) ?_
                refine l_ldpN C0 (i := 50 + jj) (by omega) dL_areOrders_121 (v := pf (50 + jj)) rfl ?_
                refine j_if_le C0 134 dL_areOrders_122 (by decide) (fun (q11 : pf (50 + jj) ≤ 0) => ?_) (fun (q11 : ¬ (pf (50 + jj) ≤ 0)) => ?_)
                ·
                  refine j_iconst C0 (v := 0) dL_areOrders_134 (by decide) ?_
                  refine j_iadd C0 dL_areOrders_135 ?_
                  refine j_top (nI (zC (zAp pf kk) (jj + 1))) (zC_fI (show zAp pf kk jj = false from decide_eq_false (by have t1 := nI_toInt (n := jj) (by omega); have t2 := nI_toInt (n := kk) (by omega); have t3 : (0 : Int32).toInt = 0 := rfl; simp only [Int32.lt_iff_toInt_lt, Int32.le_iff_toInt_le, ← Int32.toInt_inj] at q1 q3 q5 q7 q9 q11 ⊢; omega))) ?_
                  refine j_istore C0 (L' := [(0, .ref (ad 0)), (1, .ref (ac)), (2, .ref (ap)), (3, .int ((1 : Int32))), (4, .int (nI kk)), (5, .int (nI (zC (zAp pf kk) (jj + 1)))), (6, .int (nI jj)), (7, .int ((1 : Int32)))]) dL_areOrders_136 (by decide) rfl ?_
                  refine j_iinc C0 (v := nI (jj + 1)) (L' := [(0, .ref (ad 0)), (1, .ref (ac)), (2, .ref (ap)), (3, .int ((1 : Int32))), (4, .int (nI kk)), (5, .int (nI (zC (zAp pf kk) (jj + 1)))), (6, .int (nI (jj + 1))), (7, .int ((1 : Int32)))]) dL_areOrders_138 rfl (nI_inc jj) (by decide) rfl ?_
                  refine j_goto C0 23 dL_areOrders_141 (by decide) ?_
                  refine j_widen (k := 2 * kk) (n := 12 * kk) (by omega) (by omega) ?_
                  refine j_locals (L' := [(0, .ref (ad 0)), (1, .ref (ac)), (2, .ref (ap)), (3, .int ((1 : Int32))), (4, .int (nI kk)), (5, .int (nI (zC (zAp pf kk) (jj + 1)))), (6, .int (nI (jj + 1)))]) (fun q hq => by simp only [List.mem_cons, List.mem_nil_iff, or_false] at hq ⊢; rcases hq with rfl | rfl | rfl | rfl | rfl | rfl | rfl <;> simp) (lok_of rfl rfl) ?_
                  exact K23
                ·
                  refine j_iload C0 dL_areOrders_125 rfl ?_
                  refine j_if_eq C0 134 dL_areOrders_127 (by decide) (fun z9 => absurd z9 (by decide)) (fun _ => ?_)
                  refine j_iconst C0 (v := 1) dL_areOrders_130 (by decide) ?_
                  refine j_goto C0 135 dL_areOrders_131 (by decide) ?_
                  refine j_iadd C0 dL_areOrders_135 ?_
                  refine j_top (nI (zC (zAp pf kk) (jj + 1))) (zC_tI (show zAp pf kk jj = true from decide_eq_true (by have t1 := nI_toInt (n := jj) (by omega); have t2 := nI_toInt (n := kk) (by omega); have t3 : (0 : Int32).toInt = 0 := rfl; simp only [Int32.lt_iff_toInt_lt, Int32.le_iff_toInt_le, ← Int32.toInt_inj] at q1 q3 q5 q7 q9 q11 ⊢; omega))) ?_
                  refine j_istore C0 (L' := [(0, .ref (ad 0)), (1, .ref (ac)), (2, .ref (ap)), (3, .int ((1 : Int32))), (4, .int (nI kk)), (5, .int (nI (zC (zAp pf kk) (jj + 1)))), (6, .int (nI jj)), (7, .int ((1 : Int32)))]) dL_areOrders_136 (by decide) rfl ?_
                  refine j_iinc C0 (v := nI (jj + 1)) (L' := [(0, .ref (ad 0)), (1, .ref (ac)), (2, .ref (ap)), (3, .int ((1 : Int32))), (4, .int (nI kk)), (5, .int (nI (zC (zAp pf kk) (jj + 1)))), (6, .int (nI (jj + 1))), (7, .int ((1 : Int32)))]) dL_areOrders_138 rfl (nI_inc jj) (by decide) rfl ?_
                  refine j_goto C0 23 dL_areOrders_141 (by decide) ?_
                  refine j_widen (k := 2 * kk) (n := 12 * kk) (by omega) (by omega) ?_
                  refine j_locals (L' := [(0, .ref (ad 0)), (1, .ref (ac)), (2, .ref (ap)), (3, .int ((1 : Int32))), (4, .int (nI kk)), (5, .int (nI (zC (zAp pf kk) (jj + 1)))), (6, .int (nI (jj + 1)))]) (fun q hq => by simp only [List.mem_cons, List.mem_nil_iff, or_false] at hq ⊢; rcases hq with rfl | rfl | rfl | rfl | rfl | rfl | rfl <;> simp) (lok_of rfl rfl) ?_
                  exact K23
    ·
      show J p l e _ s m args below meth c (fun q => z ≤ q) 8 _ (LV D Y z tE ac ap ad F G N Q cf pf) (2 * kk) (12 * kk) 23 [(0, .ref (ad 0)), (1, .ref (ac)), (2, .ref (ap)), (3, .int ((1 : Int32))), (4, .int (nI kk)), (5, .int (nI (zC (zAp pf kk) (N 0)))), (6, .int (nI (N 0)))] []
      refine j_iload C0 dL_areOrders_23 rfl ?_
      refine j_aload_n C0 dL_areOrders_25 rfl ?_
      refine j_iconst C0 (v := 1) dL_areOrders_26 (by decide) ?_
      refine l_ldcN C0 (i := 1) (by omega) dL_areOrders_27 (v := nI (N 0)) hL.2.2.2.1 ?_
      refine j_icmp_ge C0 144 dL_areOrders_28 (by decide) (fun _ => ?_) (fun z9 => absurd (nI_le (Nat.le_refl _) (by omega)) z9)
      refine j_aload_n C0 dL_areOrders_144 rfl ?_
      refine j_iload C0 dL_areOrders_145 rfl ?_
      refine j_callVv C0 (lv_kx (z := z) (ac := ac) (ap := ap) (cf := cf) (pf := pf) (show eX6_queue F G N Q (nI kk) = 0 ∧ vX6_queue F G N Q (nI kk) = vX6_queue F G N Q (nI kk) from ⟨(zv_queue hL.1 (k := kk) hkk).1, rfl⟩).1 (show eX6_queue F G N Q (nI kk) = 0 ∧ vX6_queue F G N Q (nI kk) = vX6_queue F G N Q (nI kk) from ⟨(zv_queue hL.1 (k := kk) hkk).1, rfl⟩).2 (k_X6_queue hsl (A := AC z ac ap) (E := EC (AC z ac ap) tE mi) (fun U h => h) ad F G N Q (nI kk) )) mv_X6_queue wm_L_45 (lv_recv C0) rfl rfl ⟨Nat.le_of_ble_eq_true rfl, Nat.le_of_ble_eq_true rfl⟩ (Nat.le_of_ble_eq_true rfl) ⟨by show _ ≤ (20 : Nat); omega, by show _ ≤ (120 : Nat); omega⟩ dL_areOrders_147 ?_
      refine j_aload_n C0 dL_areOrders_150 rfl ?_
      refine j_bipush C0 (v := 50) dL_areOrders_151 (by decide) ?_
      refine j_iload C0 dL_areOrders_153 rfl ?_
      refine j_iadd C0 dL_areOrders_155 ?_
      refine j_top (nI (50 + kk)) (nI_add 50 kk) ?_
      refine l_ldpN C0 (i := 50 + kk) (by omega) dL_areOrders_156 (v := pf (50 + kk)) rfl ?_
      refine j_if_ne C0 164 dL_areOrders_157 (by decide) (fun (q12 : ¬ (pf (50 + kk) = 0)) => ?_) (fun (q12 : pf (50 + kk) = 0) => ?_)
      ·
        refine j_iload C0 dL_areOrders_164 rfl ?_
        refine j_icmp_ne C0 173 dL_areOrders_166 (by decide) (fun z9 => absurd (zq_some hL hkk q12) z9) (fun _ => ?_)
        refine j_iconst C0 (v := 1) dL_areOrders_169 (by decide) ?_
        refine j_goto C0 174 dL_areOrders_170 (by decide) ?_
        refine j_istore_n C0 (L' := [(0, .ref (ad 0)), (1, .ref (ac)), (2, .ref (ap)), (3, .int ((1 : Int32))), (4, .int (nI kk)), (5, .int (nI (zC (zAp pf kk) (N 0)))), (6, .int (nI (N 0)))]) dL_areOrders_174 (by decide) rfl ?_
        refine j_iinc C0 (v := nI (kk + 1)) (L' := [(0, .ref (ad 0)), (1, .ref (ac)), (2, .ref (ap)), (3, .int ((1 : Int32))), (4, .int (nI (kk + 1))), (5, .int (nI (zC (zAp pf kk) (N 0)))), (6, .int (nI (N 0)))]) dL_areOrders_175 rfl (nI_inc kk) (by decide) rfl ?_
        refine j_goto C0 5 dL_areOrders_178 (by decide) ?_
        refine j_widen (k := 0 + 2 * (kk + 1)) (n := 0 + 12 * (kk + 1)) (by omega) (by omega) ?_
        refine j_locals (L' := [(0, .ref (ad 0)), (1, .ref (ac)), (2, .ref (ap)), (3, .int ((1 : Int32))), (4, .int (nI (kk + 1)))]) (fun q hq => by simp only [List.mem_cons, List.mem_nil_iff, or_false] at hq ⊢; rcases hq with rfl | rfl | rfl | rfl | rfl <;> simp) (lok_of rfl rfl) ?_
        exact K5
      ·
        refine j_iconst C0 (v := -1) dL_areOrders_160 (by decide) ?_
        refine j_goto C0 166 dL_areOrders_161 (by decide) ?_
        refine j_icmp_ne C0 173 dL_areOrders_166 (by decide) (fun z9 => absurd (zq_none hL hkk q12) z9) (fun _ => ?_)
        refine j_iconst C0 (v := 1) dL_areOrders_169 (by decide) ?_
        refine j_goto C0 174 dL_areOrders_170 (by decide) ?_
        refine j_istore_n C0 (L' := [(0, .ref (ad 0)), (1, .ref (ac)), (2, .ref (ap)), (3, .int ((1 : Int32))), (4, .int (nI kk)), (5, .int (nI (zC (zAp pf kk) (N 0)))), (6, .int (nI (N 0)))]) dL_areOrders_174 (by decide) rfl ?_
        refine j_iinc C0 (v := nI (kk + 1)) (L' := [(0, .ref (ad 0)), (1, .ref (ac)), (2, .ref (ap)), (3, .int ((1 : Int32))), (4, .int (nI (kk + 1))), (5, .int (nI (zC (zAp pf kk) (N 0)))), (6, .int (nI (N 0)))]) dL_areOrders_175 rfl (nI_inc kk) (by decide) rfl ?_
        refine j_goto C0 5 dL_areOrders_178 (by decide) ?_
        refine j_widen (k := 0 + 2 * (kk + 1)) (n := 0 + 12 * (kk + 1)) (by omega) (by omega) ?_
        refine j_locals (L' := [(0, .ref (ad 0)), (1, .ref (ac)), (2, .ref (ap)), (3, .int ((1 : Int32))), (4, .int (nI (kk + 1)))]) (fun q hq => by simp only [List.mem_cons, List.mem_nil_iff, or_false] at hq ⊢; rcases hq with rfl | rfl | rfl | rfl | rfl <;> simp) (lok_of rfl rfl) ?_
        exact K5
  ·
    show J p l e _ s m args below meth c (fun q => z ≤ q) 8 _ (LV D Y z tE ac ap ad F G N Q cf pf) (0 + 2 * (N 0)) (0 + 12 * (N 0)) 5 [(0, .ref (ad 0)), (1, .ref (ac)), (2, .ref (ap)), (3, .int ((1 : Int32))), (4, .int (nI (N 0)))] []
    refine j_iload C0 dL_areOrders_5 rfl ?_
    refine j_aload_n C0 dL_areOrders_7 rfl ?_
    refine j_iconst C0 (v := 1) dL_areOrders_8 (by decide) ?_
    refine l_ldcN C0 (i := 1) (by omega) dL_areOrders_9 (v := nI (N 0)) hL.2.2.2.1 ?_
    refine j_icmp_ge C0 181 dL_areOrders_10 (by decide) (fun _ => ?_) (fun z9 => absurd (nI_le (Nat.le_refl _) (by omega)) z9)
    refine j_iload_n C0 dL_areOrders_181 rfl ?_
    refine j_widen (k := 20) (n := 120) (by omega) (by omega) ?_
    exact j_zretE C0 rfl rfl (by decide) dL_areOrders_182 (fun H h => h)
set_option maxRecDepth 100000 in
set_option maxHeartbeats 4000000 in
theorem k_L_hasWater {l : Launch} (hsl : l.stackTraces = false) {D : va_G} {Y : Nat → ClassId} {z tE mi ac ap : Nat} {ad : Nat → Nat} {t : Nat} (F : Nat → Int32) (G : Nat → Nat → Int32) (N : Nat → Nat) (Q : Nat → Nat → Nat) (cf pf : Nat → Int32) (hL : zL t F G N Q cf pf) (k x : Nat) (hk : k < N 0) (hx : x ≤ 3000) : KM l yL_hasWater cL_hasWater 8 (some .boolean) D Y (fun q => z ≤ q) (EC (fun q => z ≤ q) tE mi) 8 200 4 24 [.ref (ad 0), .ref (ac), .ref (ap), .int (nI k), .int (nI x)] (LV D Y z tE ac ap ad F G N Q cf pf) (some (.int (vX6_hasWater F G N Q (nI k) (nI x)))) (LV D Y z tE ac ap ad F G N Q cf pf) := by
  refine KM_of RL [(0, .ref (ad 0)), (1, .ref (ac)), (2, .ref (ap)), (3, .int (nI k)), (4, .int (nI x))] rfl (by decide) hsl (Nat.le_of_ble_eq_true rfl) rfl (lok_of rfl rfl) ?_
  intro p e s m args below meth c C0
  have hn0 := hL.1.n0
  have h10 := hL.2.1.1
  have hM := hL.2.2.2.2.2.2.2.1
  obtain ⟨b, hb, e9⟩ := vp_in_of (hL.1.hb k hk) (by decide)
  refine j_aload_n C0 dL_hasWater_0 rfl ?_
  refine j_bipush C0 (v := 40) dL_hasWater_1 (by decide) ?_
  refine j_iload_n C0 dL_hasWater_3 rfl ?_
  refine j_iadd C0 dL_hasWater_4 ?_
  refine j_top (nI (40 + k)) (nI_add 40 k) ?_
  refine l_ldpN C0 (i := 40 + k) (by omega) dL_hasWater_5 (v := G 10 k) (hM k hk).2.2.2.2.1 ?_
  refine j_if_ne C0 14 dL_hasWater_6 (by decide) (fun (q1 : ¬ (G 10 k = 0)) => ?_) (fun (q1 : G 10 k = 0) => ?_)
  ·
    refine j_aload_n C0 dL_hasWater_14 rfl ?_
    refine j_bipush C0 (v := 8) dL_hasWater_15 (by decide) ?_
    refine j_aload_n C0 dL_hasWater_17 rfl ?_
    refine j_bipush C0 (v := 30) dL_hasWater_18 (by decide) ?_
    refine j_iload_n C0 dL_hasWater_20 rfl ?_
    refine j_iadd C0 dL_hasWater_21 ?_
    refine j_top (nI (30 + k)) (nI_add 30 k) ?_
    refine l_ldpN C0 (i := 30 + k) (by omega) dL_hasWater_22 (v := nI b) ((hM k hk).2.2.2.1.trans e9) ?_
    refine j_iadd C0 dL_hasWater_23 ?_
    refine j_top (nI (8 + b)) (nI_add 8 b) ?_
    refine l_ldcN C0 (i := 8 + b) (by omega) dL_hasWater_24 (v := G 2 b) (hL.2.2.2.2.2.2.1 b hb) ?_
    refine j_istore C0 (L' := [(0, .ref (ad 0)), (1, .ref (ac)), (2, .ref (ap)), (3, .int (nI k)), (4, .int (nI x)), (5, .int (G 2 b))]) dL_hasWater_25 (by decide) rfl ?_
    refine j_aload_n C0 dL_hasWater_27 rfl ?_
    refine j_bipush C0 (v := 40) dL_hasWater_28 (by decide) ?_
    refine j_iload_n C0 dL_hasWater_30 rfl ?_
    refine j_iadd C0 dL_hasWater_31 ?_
    refine j_top (nI (40 + k)) (nI_add 40 k) ?_
    refine l_ldpN C0 (i := 40 + k) (by omega) dL_hasWater_32 (v := G 10 k) (hM k hk).2.2.2.2.1 ?_
    refine j_if_ne C0 50 dL_hasWater_33 (by decide) (fun _ => ?_) (fun z9 => absurd z9 q1)
    refine j_bipush C0 (v := 30) dL_hasWater_50 (by decide) ?_
    refine j_istore C0 (L' := [(0, .ref (ad 0)), (1, .ref (ac)), (2, .ref (ap)), (3, .int (nI k)), (4, .int (nI x)), (5, .int (G 2 b)), (6, .int ((30 : Int32)))]) dL_hasWater_52 (by decide) rfl ?_
    refine j_aload_n C0 dL_hasWater_54 rfl ?_
    refine j_iload C0 dL_hasWater_55 rfl ?_
    refine j_callVv C0 (lv_kx (z := z) (ac := ac) (ap := ap) (cf := cf) (pf := pf) (zv_depth (F := F) (G := G) (N := N) (Q := Q) (h := x) (by omega)).1 (zv_depth (F := F) (G := G) (N := N) (Q := Q) (h := x) (by omega)).2 (k_X6_depth hsl (A := AC z ac ap) (E := EC (AC z ac ap) tE mi) (fun U h => h) ad F G N Q (nI x) )) mv_X6_depth wm_L_23 (lv_recv C0) rfl rfl ⟨Nat.le_of_ble_eq_true rfl, Nat.le_of_ble_eq_true rfl⟩ (Nat.le_of_ble_eq_true rfl) ⟨by show _ ≤ (4 : Nat); omega, by show _ ≤ (24 : Nat); omega⟩ dL_hasWater_57 ?_
    refine j_iload C0 dL_hasWater_60 rfl ?_
    refine j_iadd C0 dL_hasWater_62 ?_
    refine j_aload_n C0 dL_hasWater_63 rfl ?_
    refine j_bipush C0 (v := 10) dL_hasWater_64 (by decide) ?_
    refine j_iload_n C0 dL_hasWater_66 rfl ?_
    refine j_iadd C0 dL_hasWater_67 ?_
    refine j_top (nI (10 + k)) (nI_add 10 k) ?_
    refine l_ldpN C0 (i := 10 + k) (by omega) dL_hasWater_68 (v := G 7 k) (hM k hk).2.1 ?_
    refine j_iconst C0 (v := 5) dL_hasWater_69 (by decide) ?_
    refine j_iadd C0 dL_hasWater_70 ?_
    refine j_icmp_lt C0 100 dL_hasWater_71 (by decide) (fun (q2 : ((G 0 (x % 12) + G 1 x) + G 2 b) < (G 7 k + (5 : Int32))) => ?_) (fun (q2 : ¬ (((G 0 (x % 12) + G 1 x) + G 2 b) < (G 7 k + (5 : Int32)))) => ?_)
    ·
      refine j_iconst C0 (v := 0) dL_hasWater_100 (by decide) ?_
      refine j_istore C0 (L' := [(0, .ref (ad 0)), (1, .ref (ac)), (2, .ref (ap)), (3, .int (nI k)), (4, .int (nI x)), (5, .int (G 2 b)), (6, .int ((30 : Int32))), (7, .int ((0 : Int32)))]) dL_hasWater_101 (by decide) rfl ?_
      refine j_iload C0 dL_hasWater_103 rfl ?_
      refine j_if_eq C0 131 dL_hasWater_105 (by decide) (fun _ => ?_) (fun z9 => absurd (by decide) z9)
      refine j_iconst C0 (v := 0) dL_hasWater_131 (by decide) ?_
      refine j_widen (k := 4) (n := 24) (by omega) (by omega) ?_
      exact j_zretE C0 rfl (by rw [z_hw hk hn0 hx e9 hb]; simp only [q1, q2, if_true, if_false, ite_self, eq_self, (show ¬ (2 : Int32) = 0 by decide)]) (by decide) dL_hasWater_132 (fun H h => h)
    ·
      refine j_aload_n C0 dL_hasWater_74 rfl ?_
      refine j_iload C0 dL_hasWater_75 rfl ?_
      refine j_iconst C0 (v := 1) dL_hasWater_77 (by decide) ?_
      refine j_iadd C0 dL_hasWater_78 ?_
      refine j_top (nI (x + 1)) (nI_add x 1) ?_
      refine j_callVv C0 (lv_kx (z := z) (ac := ac) (ap := ap) (cf := cf) (pf := pf) (zv_depth (F := F) (G := G) (N := N) (Q := Q) (h := x + 1) (by omega)).1 (zv_depth (F := F) (G := G) (N := N) (Q := Q) (h := x + 1) (by omega)).2 (k_X6_depth hsl (A := AC z ac ap) (E := EC (AC z ac ap) tE mi) (fun U h => h) ad F G N Q (nI (x + 1)) )) mv_X6_depth wm_L_23 (lv_recv C0) rfl rfl ⟨Nat.le_of_ble_eq_true rfl, Nat.le_of_ble_eq_true rfl⟩ (Nat.le_of_ble_eq_true rfl) ⟨by show _ ≤ (4 : Nat); omega, by show _ ≤ (24 : Nat); omega⟩ dL_hasWater_79 ?_
      refine j_iload C0 dL_hasWater_82 rfl ?_
      refine j_iadd C0 dL_hasWater_84 ?_
      refine j_aload_n C0 dL_hasWater_85 rfl ?_
      refine j_bipush C0 (v := 10) dL_hasWater_86 (by decide) ?_
      refine j_iload_n C0 dL_hasWater_88 rfl ?_
      refine j_iadd C0 dL_hasWater_89 ?_
      refine j_top (nI (10 + k)) (nI_add 10 k) ?_
      refine l_ldpN C0 (i := 10 + k) (by omega) dL_hasWater_90 (v := G 7 k) (hM k hk).2.1 ?_
      refine j_iconst C0 (v := 5) dL_hasWater_91 (by decide) ?_
      refine j_iadd C0 dL_hasWater_92 ?_
      refine j_icmp_lt C0 100 dL_hasWater_93 (by decide) (fun (q3 : ((G 0 ((x + 1) % 12) + G 1 (x + 1)) + (30 : Int32)) < (G 7 k + (5 : Int32))) => ?_) (fun (q3 : ¬ (((G 0 ((x + 1) % 12) + G 1 (x + 1)) + (30 : Int32)) < (G 7 k + (5 : Int32)))) => ?_)
      ·
        refine j_iconst C0 (v := 0) dL_hasWater_100 (by decide) ?_
        refine j_istore C0 (L' := [(0, .ref (ad 0)), (1, .ref (ac)), (2, .ref (ap)), (3, .int (nI k)), (4, .int (nI x)), (5, .int (G 2 b)), (6, .int ((30 : Int32))), (7, .int ((0 : Int32)))]) dL_hasWater_101 (by decide) rfl ?_
        refine j_iload C0 dL_hasWater_103 rfl ?_
        refine j_if_eq C0 131 dL_hasWater_105 (by decide) (fun _ => ?_) (fun z9 => absurd (by decide) z9)
        refine j_iconst C0 (v := 0) dL_hasWater_131 (by decide) ?_
        refine j_widen (k := 4) (n := 24) (by omega) (by omega) ?_
        exact j_zretE C0 rfl (by rw [z_hw hk hn0 hx e9 hb]; simp only [q1, q2, q3, if_true, if_false, ite_self, eq_self, (show ¬ (2 : Int32) = 0 by decide)]) (by decide) dL_hasWater_132 (fun H h => h)
      ·
        refine j_iconst C0 (v := 1) dL_hasWater_96 (by decide) ?_
        refine j_goto C0 101 dL_hasWater_97 (by decide) ?_
        refine j_istore C0 (L' := [(0, .ref (ad 0)), (1, .ref (ac)), (2, .ref (ap)), (3, .int (nI k)), (4, .int (nI x)), (5, .int (G 2 b)), (6, .int ((30 : Int32))), (7, .int ((1 : Int32)))]) dL_hasWater_101 (by decide) rfl ?_
        refine j_iload C0 dL_hasWater_103 rfl ?_
        refine j_if_eq C0 131 dL_hasWater_105 (by decide) (fun z9 => absurd z9 (by decide)) (fun _ => ?_)
        refine j_aload_n C0 dL_hasWater_108 rfl ?_
        refine j_bipush C0 (v := 40) dL_hasWater_109 (by decide) ?_
        refine j_iload_n C0 dL_hasWater_111 rfl ?_
        refine j_iadd C0 dL_hasWater_112 ?_
        refine j_top (nI (40 + k)) (nI_add 40 k) ?_
        refine l_ldpN C0 (i := 40 + k) (by omega) dL_hasWater_113 (v := G 10 k) (hM k hk).2.2.2.2.1 ?_
        refine j_if_eq C0 127 dL_hasWater_114 (by decide) (fun z9 => absurd z9 q1) (fun _ => ?_)
        refine j_aload_n C0 dL_hasWater_117 rfl ?_
        refine j_bipush C0 (v := 40) dL_hasWater_118 (by decide) ?_
        refine j_iload_n C0 dL_hasWater_120 rfl ?_
        refine j_iadd C0 dL_hasWater_121 ?_
        refine j_top (nI (40 + k)) (nI_add 40 k) ?_
        refine l_ldpN C0 (i := 40 + k) (by omega) dL_hasWater_122 (v := G 10 k) (hM k hk).2.2.2.2.1 ?_
        refine j_iconst C0 (v := 2) dL_hasWater_123 (by decide) ?_
        refine j_icmp_ne C0 131 dL_hasWater_124 (by decide) (fun (q4 : ¬ (G 10 k = (2 : Int32))) => ?_) (fun (q4 : G 10 k = (2 : Int32)) => ?_)
        ·
          refine j_iconst C0 (v := 0) dL_hasWater_131 (by decide) ?_
          refine j_widen (k := 4) (n := 24) (by omega) (by omega) ?_
          exact j_zretE C0 rfl (by rw [z_hw hk hn0 hx e9 hb]; simp only [q1, q2, q3, q4, if_true, if_false, ite_self, eq_self, (show ¬ (2 : Int32) = 0 by decide)]) (by decide) dL_hasWater_132 (fun H h => h)
        ·
          refine j_iconst C0 (v := 1) dL_hasWater_127 (by decide) ?_
          refine j_goto C0 132 dL_hasWater_128 (by decide) ?_
          refine j_widen (k := 4) (n := 24) (by omega) (by omega) ?_
          exact j_zretE C0 rfl (by rw [z_hw hk hn0 hx e9 hb]; simp only [q1, q2, q3, q4, if_true, if_false, ite_self, eq_self, (show ¬ (2 : Int32) = 0 by decide)]) (by decide) dL_hasWater_132 (fun H h => h)
  ·
    refine j_bipush C0 (v := 30) dL_hasWater_9 (by decide) ?_
    refine j_goto C0 25 dL_hasWater_11 (by decide) ?_
    refine j_istore C0 (L' := [(0, .ref (ad 0)), (1, .ref (ac)), (2, .ref (ap)), (3, .int (nI k)), (4, .int (nI x)), (5, .int ((30 : Int32)))]) dL_hasWater_25 (by decide) rfl ?_
    refine j_aload_n C0 dL_hasWater_27 rfl ?_
    refine j_bipush C0 (v := 40) dL_hasWater_28 (by decide) ?_
    refine j_iload_n C0 dL_hasWater_30 rfl ?_
    refine j_iadd C0 dL_hasWater_31 ?_
    refine j_top (nI (40 + k)) (nI_add 40 k) ?_
    refine l_ldpN C0 (i := 40 + k) (by omega) dL_hasWater_32 (v := G 10 k) (hM k hk).2.2.2.2.1 ?_
    refine j_if_ne C0 50 dL_hasWater_33 (by decide) (fun z9 => absurd q1 z9) (fun _ => ?_)
    refine j_aload_n C0 dL_hasWater_36 rfl ?_
    refine j_bipush C0 (v := 8) dL_hasWater_37 (by decide) ?_
    refine j_aload_n C0 dL_hasWater_39 rfl ?_
    refine j_bipush C0 (v := 30) dL_hasWater_40 (by decide) ?_
    refine j_iload_n C0 dL_hasWater_42 rfl ?_
    refine j_iadd C0 dL_hasWater_43 ?_
    refine j_top (nI (30 + k)) (nI_add 30 k) ?_
    refine l_ldpN C0 (i := 30 + k) (by omega) dL_hasWater_44 (v := nI b) ((hM k hk).2.2.2.1.trans e9) ?_
    refine j_iadd C0 dL_hasWater_45 ?_
    refine j_top (nI (8 + b)) (nI_add 8 b) ?_
    refine l_ldcN C0 (i := 8 + b) (by omega) dL_hasWater_46 (v := G 2 b) (hL.2.2.2.2.2.2.1 b hb) ?_
    refine j_goto C0 52 dL_hasWater_47 (by decide) ?_
    refine j_istore C0 (L' := [(0, .ref (ad 0)), (1, .ref (ac)), (2, .ref (ap)), (3, .int (nI k)), (4, .int (nI x)), (5, .int ((30 : Int32))), (6, .int (G 2 b))]) dL_hasWater_52 (by decide) rfl ?_
    refine j_aload_n C0 dL_hasWater_54 rfl ?_
    refine j_iload C0 dL_hasWater_55 rfl ?_
    refine j_callVv C0 (lv_kx (z := z) (ac := ac) (ap := ap) (cf := cf) (pf := pf) (zv_depth (F := F) (G := G) (N := N) (Q := Q) (h := x) (by omega)).1 (zv_depth (F := F) (G := G) (N := N) (Q := Q) (h := x) (by omega)).2 (k_X6_depth hsl (A := AC z ac ap) (E := EC (AC z ac ap) tE mi) (fun U h => h) ad F G N Q (nI x) )) mv_X6_depth wm_L_23 (lv_recv C0) rfl rfl ⟨Nat.le_of_ble_eq_true rfl, Nat.le_of_ble_eq_true rfl⟩ (Nat.le_of_ble_eq_true rfl) ⟨by show _ ≤ (4 : Nat); omega, by show _ ≤ (24 : Nat); omega⟩ dL_hasWater_57 ?_
    refine j_iload C0 dL_hasWater_60 rfl ?_
    refine j_iadd C0 dL_hasWater_62 ?_
    refine j_aload_n C0 dL_hasWater_63 rfl ?_
    refine j_bipush C0 (v := 10) dL_hasWater_64 (by decide) ?_
    refine j_iload_n C0 dL_hasWater_66 rfl ?_
    refine j_iadd C0 dL_hasWater_67 ?_
    refine j_top (nI (10 + k)) (nI_add 10 k) ?_
    refine l_ldpN C0 (i := 10 + k) (by omega) dL_hasWater_68 (v := G 7 k) (hM k hk).2.1 ?_
    refine j_iconst C0 (v := 5) dL_hasWater_69 (by decide) ?_
    refine j_iadd C0 dL_hasWater_70 ?_
    refine j_icmp_lt C0 100 dL_hasWater_71 (by decide) (fun (q5 : ((G 0 (x % 12) + G 1 x) + (30 : Int32)) < (G 7 k + (5 : Int32))) => ?_) (fun (q5 : ¬ (((G 0 (x % 12) + G 1 x) + (30 : Int32)) < (G 7 k + (5 : Int32)))) => ?_)
    ·
      refine j_iconst C0 (v := 0) dL_hasWater_100 (by decide) ?_
      refine j_istore C0 (L' := [(0, .ref (ad 0)), (1, .ref (ac)), (2, .ref (ap)), (3, .int (nI k)), (4, .int (nI x)), (5, .int ((30 : Int32))), (6, .int (G 2 b)), (7, .int ((0 : Int32)))]) dL_hasWater_101 (by decide) rfl ?_
      refine j_iload C0 dL_hasWater_103 rfl ?_
      refine j_if_eq C0 131 dL_hasWater_105 (by decide) (fun _ => ?_) (fun z9 => absurd (by decide) z9)
      refine j_iconst C0 (v := 0) dL_hasWater_131 (by decide) ?_
      refine j_widen (k := 4) (n := 24) (by omega) (by omega) ?_
      exact j_zretE C0 rfl (by rw [z_hw hk hn0 hx e9 hb]; simp only [q1, q5, if_true, if_false, ite_self, eq_self, (show ¬ (2 : Int32) = 0 by decide)]) (by decide) dL_hasWater_132 (fun H h => h)
    ·
      refine j_aload_n C0 dL_hasWater_74 rfl ?_
      refine j_iload C0 dL_hasWater_75 rfl ?_
      refine j_iconst C0 (v := 1) dL_hasWater_77 (by decide) ?_
      refine j_iadd C0 dL_hasWater_78 ?_
      refine j_top (nI (x + 1)) (nI_add x 1) ?_
      refine j_callVv C0 (lv_kx (z := z) (ac := ac) (ap := ap) (cf := cf) (pf := pf) (zv_depth (F := F) (G := G) (N := N) (Q := Q) (h := x + 1) (by omega)).1 (zv_depth (F := F) (G := G) (N := N) (Q := Q) (h := x + 1) (by omega)).2 (k_X6_depth hsl (A := AC z ac ap) (E := EC (AC z ac ap) tE mi) (fun U h => h) ad F G N Q (nI (x + 1)) )) mv_X6_depth wm_L_23 (lv_recv C0) rfl rfl ⟨Nat.le_of_ble_eq_true rfl, Nat.le_of_ble_eq_true rfl⟩ (Nat.le_of_ble_eq_true rfl) ⟨by show _ ≤ (4 : Nat); omega, by show _ ≤ (24 : Nat); omega⟩ dL_hasWater_79 ?_
      refine j_iload C0 dL_hasWater_82 rfl ?_
      refine j_iadd C0 dL_hasWater_84 ?_
      refine j_aload_n C0 dL_hasWater_85 rfl ?_
      refine j_bipush C0 (v := 10) dL_hasWater_86 (by decide) ?_
      refine j_iload_n C0 dL_hasWater_88 rfl ?_
      refine j_iadd C0 dL_hasWater_89 ?_
      refine j_top (nI (10 + k)) (nI_add 10 k) ?_
      refine l_ldpN C0 (i := 10 + k) (by omega) dL_hasWater_90 (v := G 7 k) (hM k hk).2.1 ?_
      refine j_iconst C0 (v := 5) dL_hasWater_91 (by decide) ?_
      refine j_iadd C0 dL_hasWater_92 ?_
      refine j_icmp_lt C0 100 dL_hasWater_93 (by decide) (fun (q6 : ((G 0 ((x + 1) % 12) + G 1 (x + 1)) + G 2 b) < (G 7 k + (5 : Int32))) => ?_) (fun (q6 : ¬ (((G 0 ((x + 1) % 12) + G 1 (x + 1)) + G 2 b) < (G 7 k + (5 : Int32)))) => ?_)
      ·
        refine j_iconst C0 (v := 0) dL_hasWater_100 (by decide) ?_
        refine j_istore C0 (L' := [(0, .ref (ad 0)), (1, .ref (ac)), (2, .ref (ap)), (3, .int (nI k)), (4, .int (nI x)), (5, .int ((30 : Int32))), (6, .int (G 2 b)), (7, .int ((0 : Int32)))]) dL_hasWater_101 (by decide) rfl ?_
        refine j_iload C0 dL_hasWater_103 rfl ?_
        refine j_if_eq C0 131 dL_hasWater_105 (by decide) (fun _ => ?_) (fun z9 => absurd (by decide) z9)
        refine j_iconst C0 (v := 0) dL_hasWater_131 (by decide) ?_
        refine j_widen (k := 4) (n := 24) (by omega) (by omega) ?_
        exact j_zretE C0 rfl (by rw [z_hw hk hn0 hx e9 hb]; simp only [q1, q5, q6, if_true, if_false, ite_self, eq_self, (show ¬ (2 : Int32) = 0 by decide)]) (by decide) dL_hasWater_132 (fun H h => h)
      ·
        refine j_iconst C0 (v := 1) dL_hasWater_96 (by decide) ?_
        refine j_goto C0 101 dL_hasWater_97 (by decide) ?_
        refine j_istore C0 (L' := [(0, .ref (ad 0)), (1, .ref (ac)), (2, .ref (ap)), (3, .int (nI k)), (4, .int (nI x)), (5, .int ((30 : Int32))), (6, .int (G 2 b)), (7, .int ((1 : Int32)))]) dL_hasWater_101 (by decide) rfl ?_
        refine j_iload C0 dL_hasWater_103 rfl ?_
        refine j_if_eq C0 131 dL_hasWater_105 (by decide) (fun z9 => absurd z9 (by decide)) (fun _ => ?_)
        refine j_aload_n C0 dL_hasWater_108 rfl ?_
        refine j_bipush C0 (v := 40) dL_hasWater_109 (by decide) ?_
        refine j_iload_n C0 dL_hasWater_111 rfl ?_
        refine j_iadd C0 dL_hasWater_112 ?_
        refine j_top (nI (40 + k)) (nI_add 40 k) ?_
        refine l_ldpN C0 (i := 40 + k) (by omega) dL_hasWater_113 (v := G 10 k) (hM k hk).2.2.2.2.1 ?_
        refine j_if_eq C0 127 dL_hasWater_114 (by decide) (fun _ => ?_) (fun z9 => absurd q1 z9)
        refine j_iconst C0 (v := 1) dL_hasWater_127 (by decide) ?_
        refine j_goto C0 132 dL_hasWater_128 (by decide) ?_
        refine j_widen (k := 4) (n := 24) (by omega) (by omega) ?_
        exact j_zretE C0 rfl (by rw [z_hw hk hn0 hx e9 hb]; simp only [q1, q5, q6, if_true, if_false, ite_self, eq_self, (show ¬ (2 : Int32) = 0 by decide)]) (by decide) dL_hasWater_132 (fun H h => h)
end
