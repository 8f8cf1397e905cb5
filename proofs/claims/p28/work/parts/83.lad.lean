section
variable {p : Program} {l : Launch} {e : Env} {R : Room} {s : State} {m : MethodId} {args : Array Value} {below : List Frame} {meth : Method} {c : Code} {A : Nat → Prop} {nL : Nat} {Q9 : State → Prop} {cells slots pc : Nat} {L : List (Nat × Value)} {st : List Value} {D : va_G} {Y : Nat → ClassId} {z tE ac ap : Nat} {ad : Nat → Nat}
theorem lg_open (kk : ∀ (t : Nat) (F : Nat → Int32) (G : Nat → Nat → Int32) (N : Nat → Nat) (Q : Nat → Nat → Nat) (cf pf : Nat → Int32), zL t F G N Q cf pf → J p l e R s m args below meth c A nL Q9 (LV D Y z tE ac ap ad F G N Q cf pf) cells slots pc L st) : J p l e R s m args below meth c A nL Q9 (LG D Y z tE ac ap ad) cells slots pc L st := fun H locs ls ⟨t, F, G, N, Q, cf, pf, hz, h1⟩ h2 h3 h4 => kk t F G N Q cf pf hz H locs ls h1 h2 h3 h4
theorem lg_of {t : Nat} {F : Nat → Int32} {G : Nat → Nat → Int32} {N : Nat → Nat} {Q : Nat → Nat → Nat} {cf pf : Nat → Int32} (hz : zL t F G N Q cf pf) : ∀ H, LV D Y z tE ac ap ad F G N Q cf pf H → LG D Y z tE ac ap ad H := fun H h => ⟨t, F, G, N, Q, cf, pf, hz, h⟩
set_option maxRecDepth 100000 in
set_option maxHeartbeats 4000000 in
theorem k_L_hours {l : Launch} (hsl : l.stackTraces = false) {D : va_G} {Y : Nat → ClassId} {z tE mi ac ap : Nat} {ad : Nat → Nat}  : KM l yL_hours cL_hours 11 (some .boolean) D Y (fun q => z ≤ q) (EC (fun q => z ≤ q) tE mi) 13 575 480 4060 [.ref (ad 0), .ref (ac), .ref (ap)] (LG D Y z tE ac ap ad) (some (.int 1)) (LG D Y z tE ac ap ad) := by
  refine KM_of RL [(0, .ref (ad 0)), (1, .ref (ac)), (2, .ref (ap))] rfl (by decide) hsl (Nat.le_of_ble_eq_true rfl) rfl (lok_of rfl rfl) ?_
  intro p e s m args below meth c C0
  refine lg_open (fun t F G N Q cf pf hL => ?_)
  have hn0 := hL.1.n0
  have h10 := hL.2.1.1
  have htt := hL.1.tt.1
  refine j_aload_n C0 dL_hours_0 rfl ?_
  refine j_iconst C0 (v := 0) dL_hours_1 (by decide) ?_
  refine l_ldcN C0 (i := 0) (by omega) dL_hours_2 (v := nI t) hL.2.2.1 ?_
  refine j_sipush C0 (v := 2990) dL_hours_3 (by decide) ?_
  refine j_icmp_le C0 25 dL_hours_6 (by decide) (fun (q2990 : nI t ≤ (2990 : Int32)) => ?_) (fun (q2990 : ¬ (nI t ≤ (2990 : Int32))) => ?_)
  ·
    have ht1 : t + 1 ≤ 3000 := by have := (nI_leI (a := t) (b := 2990) (by omega) (by decide)).mp q2990; omega
    obtain ⟨hp1, hp2, hJ1, h9⟩ := z_pass1 hL.1 ht1 hL.2.1.2.1 hL.2.1.2.2.1
    have hE1 : zEq G N (pG F G N Q 1) (pN F G N Q 1) := zEq_pass
    have hsix : (sX6_pass F G N Q 1).1 - N 1 ≤ 6 := z_six hE1 hJ1 h9
    have hbe0 : pN F G N Q 1 1 - N 1 ≤ 6 := hsix
    refine j_iconst C0 (v := 0) dL_hours_25 (by decide) ?_
    refine j_istore_n C0 (L' := [(0, .ref (ad 0)), (1, .ref (ac)), (2, .ref (ap)), (3, .int ((0 : Int32)))]) dL_hours_26 (by decide) rfl ?_
    refine j_iconst C0 (v := 0) dL_hours_27 (by decide) ?_
    refine j_istore C0 (L' := [(0, .ref (ad 0)), (1, .ref (ac)), (2, .ref (ap)), (3, .int ((0 : Int32))), (4, .int ((0 : Int32)))]) dL_hours_28 (by decide) rfl ?_
    refine j_iconst C0 (v := 0) dL_hours_30 (by decide) ?_
    refine j_istore C0 (L' := [(0, .ref (ad 0)), (1, .ref (ac)), (2, .ref (ap)), (3, .int ((0 : Int32))), (4, .int ((0 : Int32))), (5, .int ((0 : Int32)))]) dL_hours_31 (by decide) rfl ?_
    refine j_widen (k := 0 + 4 * 0) (n := 0 + 24 * 0) (by omega) (by omega) ?_
    refine j_castL (L' := [(0, .ref (ad 0)), (1, .ref (ac)), (2, .ref (ap)), (3, .int (nf (fun j w => w - G 14 j) (0 : Int32) 0)), (4, .int (nf (fun j w => w - G 15 j) (0 : Int32) 0)), (5, .int (nI 0))]) (rfl) ?_
    refine l_loop (P := fun (jj : Nat) => J p l e _ s m args below meth c (fun q => z ≤ q) 11 _ (LV D Y z tE ac ap ad F G N Q cf pf) (0 + 4 * jj) (0 + 24 * jj) 33 [(0, .ref (ad 0)), (1, .ref (ac)), (2, .ref (ap)), (3, .int (nf (fun j w => w - G 14 j) (0 : Int32) jj)), (4, .int (nf (fun j w => w - G 15 j) (0 : Int32) jj)), (5, .int (nI jj))] []) (N 0) ?_ (fun jj hjj K33 => ?_)
    rotate_left
    ·
      show J p l e _ s m args below meth c (fun q => z ≤ q) 11 _ (LV D Y z tE ac ap ad F G N Q cf pf) (0 + 4 * jj) (0 + 24 * jj) 33 [(0, .ref (ad 0)), (1, .ref (ac)), (2, .ref (ap)), (3, .int (nf (fun j w => w - G 14 j) (0 : Int32) jj)), (4, .int (nf (fun j w => w - G 15 j) (0 : Int32) jj)), (5, .int (nI jj))] []
      replace K33 : J p l e _ s m args below meth c (fun q => z ≤ q) 11 _ (LV D Y z tE ac ap ad F G N Q cf pf) (0 + 4 * (jj + 1)) (0 + 24 * (jj + 1)) 33 [(0, .ref (ad 0)), (1, .ref (ac)), (2, .ref (ap)), (3, .int (nf (fun j w => w - G 14 j) (0 : Int32) (jj + 1))), (4, .int (nf (fun j w => w - G 15 j) (0 : Int32) (jj + 1))), (5, .int (nI (jj + 1)))] [] := K33
      refine j_iload C0 dL_hours_33 rfl ?_
      refine j_aload_n C0 dL_hours_35 rfl ?_
      refine j_iconst C0 (v := 1) dL_hours_36 (by decide) ?_
      refine l_ldcN C0 (i := 1) (by omega) dL_hours_37 (v := nI (N 0)) hL.2.2.2.1 ?_
      refine j_icmp_ge C0 67 dL_hours_38 (by decide) (fun z9 => absurd z9 (nI_ge (by omega) (by omega))) (fun _ => ?_)
      refine j_iload_n C0 dL_hours_41 rfl ?_
      refine j_aload_n C0 dL_hours_42 rfl ?_
      refine j_iload C0 dL_hours_43 rfl ?_
      refine j_callVv C0 (lv_kx (z := z) (ac := ac) (ap := ap) (cf := cf) (pf := pf) (zv_lost (F := F) (G := G) (N := N) (Q := Q) (k := jj) (by omega) (by omega)).1 (zv_lost (F := F) (G := G) (N := N) (Q := Q) (k := jj) (by omega) (by omega)).2 (k_X6_lost hsl (A := AC z ac ap) (E := EC (AC z ac ap) tE mi) (fun U h => h) ad F G N Q (nI jj) )) mv_X6_lost wm_L_91 (lv_recv C0) rfl rfl ⟨Nat.le_of_ble_eq_true rfl, Nat.le_of_ble_eq_true rfl⟩ (Nat.le_of_ble_eq_true rfl) ⟨by show _ ≤ (480 : Nat); omega, by show _ ≤ (4060 : Nat); omega⟩ dL_hours_45 ?_
      refine j_isub C0 dL_hours_48 ?_
      refine j_istore_n C0 (L' := [(0, .ref (ad 0)), (1, .ref (ac)), (2, .ref (ap)), (3, .int ((nf (fun j w => w - G 14 j) (0 : Int32) jj - G 14 jj))), (4, .int (nf (fun j w => w - G 15 j) (0 : Int32) jj)), (5, .int (nI jj))]) dL_hours_49 (by decide) rfl ?_
      refine j_iload C0 dL_hours_50 rfl ?_
      refine j_aload_n C0 dL_hours_52 rfl ?_
      refine j_iload C0 dL_hours_53 rfl ?_
      refine j_callVv C0 (lv_kx (z := z) (ac := ac) (ap := ap) (cf := cf) (pf := pf) (zv_claims (F := F) (G := G) (N := N) (Q := Q) (k := jj) (by omega) (by omega)).1 (zv_claims (F := F) (G := G) (N := N) (Q := Q) (k := jj) (by omega) (by omega)).2 (k_X6_claims hsl (A := AC z ac ap) (E := EC (AC z ac ap) tE mi) (fun U h => h) ad F G N Q (nI jj) )) mv_X6_claims wm_L_61 (lv_recv C0) rfl rfl ⟨Nat.le_of_ble_eq_true rfl, Nat.le_of_ble_eq_true rfl⟩ (Nat.le_of_ble_eq_true rfl) ⟨by show _ ≤ (480 : Nat); omega, by show _ ≤ (4060 : Nat); omega⟩ dL_hours_55 ?_
      refine j_isub C0 dL_hours_58 ?_
      refine j_istore C0 (L' := [(0, .ref (ad 0)), (1, .ref (ac)), (2, .ref (ap)), (3, .int ((nf (fun j w => w - G 14 j) (0 : Int32) jj - G 14 jj))), (4, .int ((nf (fun j w => w - G 15 j) (0 : Int32) jj - G 15 jj))), (5, .int (nI jj))]) dL_hours_59 (by decide) rfl ?_
      refine j_iinc C0 (v := nI (jj + 1)) (L' := [(0, .ref (ad 0)), (1, .ref (ac)), (2, .ref (ap)), (3, .int ((nf (fun j w => w - G 14 j) (0 : Int32) jj - G 14 jj))), (4, .int ((nf (fun j w => w - G 15 j) (0 : Int32) jj - G 15 jj))), (5, .int (nI (jj + 1)))]) dL_hours_61 rfl (nI_inc jj) (by decide) rfl ?_
      refine j_goto C0 33 dL_hours_64 (by decide) ?_
      refine j_widen (k := 0 + 4 * (jj + 1)) (n := 0 + 24 * (jj + 1)) (by omega) (by omega) ?_
      exact K33
    ·
      show J p l e _ s m args below meth c (fun q => z ≤ q) 11 _ (LV D Y z tE ac ap ad F G N Q cf pf) (0 + 4 * (N 0)) (0 + 24 * (N 0)) 33 [(0, .ref (ad 0)), (1, .ref (ac)), (2, .ref (ap)), (3, .int (nf (fun j w => w - G 14 j) (0 : Int32) (N 0))), (4, .int (nf (fun j w => w - G 15 j) (0 : Int32) (N 0))), (5, .int (nI (N 0)))] []
      refine j_iload C0 dL_hours_33 rfl ?_
      refine j_aload_n C0 dL_hours_35 rfl ?_
      refine j_iconst C0 (v := 1) dL_hours_36 (by decide) ?_
      refine l_ldcN C0 (i := 1) (by omega) dL_hours_37 (v := nI (N 0)) hL.2.2.2.1 ?_
      refine j_icmp_ge C0 67 dL_hours_38 (by decide) (fun _ => ?_) (fun z9 => absurd (nI_le (Nat.le_refl _) (by omega)) z9)
      refine j_aload_n C0 dL_hours_67 rfl ?_
      refine j_iconst C0 (v := 1) dL_hours_68 (by decide) ?_
      refine j_callVv C0 (lv_kx (z := z) (ac := ac) (ap := ap) (cf := cf) (pf := pf) hp1 hp2 (k_X6_pass hsl (A := AC z ac ap) (E := EC (AC z ac ap) tE mi) (fun U h => h) ad F G N Q 1 hL.1.hb hL.1.hr hL.1.hnow)) mv_X6_pass wm_L_94 (lv_recv C0) rfl rfl ⟨Nat.le_of_ble_eq_true rfl, Nat.le_of_ble_eq_true rfl⟩ (Nat.le_of_ble_eq_true rfl) ⟨by show _ ≤ (480 : Nat); omega, by show _ ≤ (4060 : Nat); omega⟩ dL_hours_69 ?_
      refine j_widen (k := 60) (n := 1530) (by omega) (by omega) ?_
      show J p l e _ s m args below meth c (fun q => z ≤ q) 11 _ (LV D Y z tE ac ap ad (pF F G N Q 1) (pG F G N Q 1) (pN F G N Q 1) (pQ F G N Q 1) cf pf) (60) (1530) 72 [(0, .ref (ad 0)), (1, .ref (ac)), (2, .ref (ap)), (3, .int (nf (fun j w => w - G 14 j) (0 : Int32) (N 0))), (4, .int (nf (fun j w => w - G 15 j) (0 : Int32) (N 0))), (5, .int (nI (N 0)))] [.int (nI (pN F G N Q 1 1 - N 1))]
      clear hp1 hp2 hsix
      generalize pF F G N Q 1 = F1 at hJ1 h9 ⊢
      generalize pG F G N Q 1 = G1 at hJ1 h9 hE1 ⊢
      generalize pN F G N Q 1 = N1 at hJ1 h9 hE1 hbe0 ⊢
      generalize pQ F G N Q 1 = Q1 at hJ1 h9 ⊢
      generalize ebg : N1 1 - N 1 = bg at hbe0 ⊢
      have hbe1 : N1 1 - N 1 = bg := ebg
      have hN0 : N1 0 = N 0 := hE1.1
      have hbe : N1 1 = N 1 + bg := by have := h9.2.2.1.1; omega
      have h94 := h9.2.2.2.1
      have h95 := h9.2.2.2.2
      have hMI := hL.2.2.2.2.2.2.2.1
      have hO12 := hL.2.1.2.2.2.2.2
      refine j_istore C0 (L' := [(0, .ref (ad 0)), (1, .ref (ac)), (2, .ref (ap)), (3, .int (nf (fun j w => w - G 14 j) (0 : Int32) (N 0))), (4, .int (nf (fun j w => w - G 15 j) (0 : Int32) (N 0))), (5, .int (nI bg))]) dL_hours_72 (by decide) rfl ?_
      refine j_aload_n C0 dL_hours_74 rfl ?_
      refine j_iconst C0 (v := 0) dL_hours_75 (by decide) ?_
      refine j_dup2 C0 dL_hours_76 rfl rfl ?_
      refine l_ldcN C0 (i := 0) (by omega) dL_hours_77 (v := nI t) hL.2.2.1 ?_
      refine j_iconst C0 (v := 1) dL_hours_78 (by decide) ?_
      refine j_iadd C0 dL_hours_79 ?_
      refine j_top (nI (t + 1)) (nI_add t 1) ?_
      refine l_stcN C0 (i := 0) (by omega) dL_hours_80 ?_
      generalize ec1 : upd cf 0 (nI (t + 1)) = cf1
      have c10 : cf1 0 = nI (t + 1) := by rw [← ec1, up_s]
      have c1n : ∀ i, ¬ i = 0 → cf1 i = cf i := fun i hi => by rw [← ec1, up_n hi]
      refine j_aload_n C0 dL_hours_81 rfl ?_
      refine j_callVv C0 (lv_kx (z := z) (ac := ac) (ap := ap) (cf := cf1) (pf := pf) rfl rfl (k_X6_moves hsl (A := AC z ac ap) (E := EC (AC z ac ap) tE mi) (fun U h => h) ad F1 G1 N1 Q1  )) mv_X6_moves wm_L_29 (lv_recv C0) rfl rfl ⟨Nat.le_of_ble_eq_true rfl, Nat.le_of_ble_eq_true rfl⟩ (Nat.le_of_ble_eq_true rfl) ⟨by show _ ≤ (480 : Nat); omega, by show _ ≤ (4060 : Nat); omega⟩ dL_hours_82 ?_
      refine j_aload_n C0 dL_hours_85 rfl ?_
      refine j_iconst C0 (v := 2) dL_hours_86 (by decide) ?_
      refine l_ldcN C0 (i := 2) (by omega) dL_hours_87 (v := nI (N 1)) ((c1n 2 (by decide)).trans hL.2.2.2.2.1) ?_
      refine j_iload C0 dL_hours_88 rfl ?_
      refine j_iadd C0 dL_hours_90 ?_
      refine j_top (nI ((N 1) + bg)) (nI_add (N 1) bg) ?_
      refine j_icmp_ne C0 105 dL_hours_91 (by decide) (fun z9 => absurd (congrArg nI hbe) z9) (fun _ => ?_)
      refine j_iload C0 dL_hours_94 rfl ?_
      refine j_bipush C0 (v := 6) dL_hours_96 (by decide) ?_
      refine j_icmp_gt C0 105 dL_hours_98 (by decide) (fun z9 => absurd z9 (nI_nlt hbe0 (by decide))) (fun _ => ?_)
      refine j_iconst C0 (v := 1) dL_hours_101 (by decide) ?_
      refine j_goto C0 106 dL_hours_102 (by decide) ?_
      refine j_istore C0 (L' := [(0, .ref (ad 0)), (1, .ref (ac)), (2, .ref (ap)), (3, .int (nf (fun j w => w - G 14 j) (0 : Int32) (N 0))), (4, .int (nf (fun j w => w - G 15 j) (0 : Int32) (N 0))), (5, .int (nI bg)), (6, .int ((1 : Int32)))]) dL_hours_106 (by decide) rfl ?_
      refine j_iconst C0 (v := 0) dL_hours_108 (by decide) ?_
      refine j_istore C0 (L' := [(0, .ref (ad 0)), (1, .ref (ac)), (2, .ref (ap)), (3, .int (nf (fun j w => w - G 14 j) (0 : Int32) (N 0))), (4, .int (nf (fun j w => w - G 15 j) (0 : Int32) (N 0))), (5, .int (nI bg)), (6, .int ((1 : Int32))), (7, .int ((0 : Int32)))]) dL_hours_109 (by decide) rfl ?_
      refine j_widen (k := 64 + 48 * 0) (n := 1560 + 288 * 0) (by omega) (by omega) ?_
      refine j_castL (L' := [(0, .ref (ad 0)), (1, .ref (ac)), (2, .ref (ap)), (3, .int (nf (fun j w => w - G 14 j) (0 : Int32) (N 0))), (4, .int (nf (fun j w => w - G 15 j) (0 : Int32) (N 0))), (5, .int (nI bg)), (6, .int ((1 : Int32))), (7, .int (nI 0))]) (rfl) ?_
      refine l_loop (P := fun (jj : Nat) => J p l e _ s m args below meth c (fun q => z ≤ q) 11 _ (LV D Y z tE ac ap ad F1 G1 N1 Q1 cf1 pf) (64 + 48 * jj) (1560 + 288 * jj) 111 [(0, .ref (ad 0)), (1, .ref (ac)), (2, .ref (ap)), (3, .int (nf (fun j w => w - G 14 j) (0 : Int32) (N 0))), (4, .int (nf (fun j w => w - G 15 j) (0 : Int32) (N 0))), (5, .int (nI bg)), (6, .int ((1 : Int32))), (7, .int (nI jj))] []) bg ?_ (fun jj hjj K111 => ?_)
      rotate_left
      ·
        show J p l e _ s m args below meth c (fun q => z ≤ q) 11 _ (LV D Y z tE ac ap ad F1 G1 N1 Q1 cf1 pf) (64 + 48 * jj) (1560 + 288 * jj) 111 [(0, .ref (ad 0)), (1, .ref (ac)), (2, .ref (ap)), (3, .int (nf (fun j w => w - G 14 j) (0 : Int32) (N 0))), (4, .int (nf (fun j w => w - G 15 j) (0 : Int32) (N 0))), (5, .int (nI bg)), (6, .int ((1 : Int32))), (7, .int (nI jj))] []
        replace K111 : J p l e _ s m args below meth c (fun q => z ≤ q) 11 _ (LV D Y z tE ac ap ad F1 G1 N1 Q1 cf1 pf) (64 + 48 * (jj + 1)) (1560 + 288 * (jj + 1)) 111 [(0, .ref (ad 0)), (1, .ref (ac)), (2, .ref (ap)), (3, .int (nf (fun j w => w - G 14 j) (0 : Int32) (N 0))), (4, .int (nf (fun j w => w - G 15 j) (0 : Int32) (N 0))), (5, .int (nI bg)), (6, .int ((1 : Int32))), (7, .int (nI (jj + 1)))] [] := K111
        have hm2 : N 1 + jj < N1 1 := by omega
        obtain ⟨pl, oo, hh, v1, v2, v3, v4, v5, v6, v7, v8, v9, v10⟩ := z_mvf hL hE1 hJ1 h9 (m := N 1 + jj) (by omega) hm2
        refine j_iload C0 dL_hours_111 rfl ?_
        refine j_iload C0 dL_hours_113 rfl ?_
        refine j_icmp_ge C0 143 dL_hours_115 (by decide) (fun z9 => absurd z9 (nI_ge (by omega) (by omega))) (fun _ => ?_)
        refine j_iload C0 dL_hours_118 rfl ?_
        refine j_if_eq C0 143 dL_hours_120 (by decide) (fun z9 => absurd z9 (by decide)) (fun _ => ?_)
        refine j_aload_n C0 dL_hours_123 rfl ?_
        refine j_aload_n C0 dL_hours_124 rfl ?_
        refine j_aload_n C0 dL_hours_125 rfl ?_
        refine j_aload_n C0 dL_hours_126 rfl ?_
        refine j_iconst C0 (v := 2) dL_hours_127 (by decide) ?_
        refine l_ldcN C0 (i := 2) (by omega) dL_hours_128 (v := nI (N 1)) ((c1n 2 (by decide)).trans hL.2.2.2.2.1) ?_
        refine j_iload C0 dL_hours_129 rfl ?_
        refine j_iadd C0 dL_hours_131 ?_
        refine j_top (nI ((N 1) + jj)) (nI_add (N 1) jj) ?_
        refine j_callSv C0 (k_L_isMove hsl F1 G1 N1 Q1 cf1 pf (N 1 + jj) (Q1 1 (N 1 + jj)) pl oo hh hJ1 (by omega) c10 hm2 rfl v1 v2 v3 v4 v5 v6 v7 v8 v9 v10) ms_L_isMove wm_L_97 rfl rfl ⟨Nat.le_of_ble_eq_true rfl, Nat.le_of_ble_eq_true rfl⟩ (Nat.le_of_ble_eq_true rfl) ⟨by show _ ≤ (480 : Nat); omega, by show _ ≤ (4060 : Nat); omega⟩ dL_hours_132 ?_
        refine j_istore C0 (L' := [(0, .ref (ad 0)), (1, .ref (ac)), (2, .ref (ap)), (3, .int (nf (fun j w => w - G 14 j) (0 : Int32) (N 0))), (4, .int (nf (fun j w => w - G 15 j) (0 : Int32) (N 0))), (5, .int (nI bg)), (6, .int ((1 : Int32))), (7, .int (nI jj))]) dL_hours_135 (by decide) rfl ?_
        refine j_iinc C0 (v := nI (jj + 1)) (L' := [(0, .ref (ad 0)), (1, .ref (ac)), (2, .ref (ap)), (3, .int (nf (fun j w => w - G 14 j) (0 : Int32) (N 0))), (4, .int (nf (fun j w => w - G 15 j) (0 : Int32) (N 0))), (5, .int (nI bg)), (6, .int ((1 : Int32))), (7, .int (nI (jj + 1)))]) dL_hours_137 rfl (nI_inc jj) (by decide) rfl ?_
        refine j_goto C0 111 dL_hours_140 (by decide) ?_
        refine j_widen (k := 64 + 48 * (jj + 1)) (n := 1560 + 288 * (jj + 1)) (by omega) (by omega) ?_
        exact K111
      ·
        show J p l e _ s m args below meth c (fun q => z ≤ q) 11 _ (LV D Y z tE ac ap ad F1 G1 N1 Q1 cf1 pf) (64 + 48 * bg) (1560 + 288 * bg) 111 [(0, .ref (ad 0)), (1, .ref (ac)), (2, .ref (ap)), (3, .int (nf (fun j w => w - G 14 j) (0 : Int32) (N 0))), (4, .int (nf (fun j w => w - G 15 j) (0 : Int32) (N 0))), (5, .int (nI bg)), (6, .int ((1 : Int32))), (7, .int (nI bg))] []
        refine j_iload C0 dL_hours_111 rfl ?_
        refine j_iload C0 dL_hours_113 rfl ?_
        refine j_icmp_ge C0 143 dL_hours_115 (by decide) (fun _ => ?_) (fun z9 => absurd (nI_le (Nat.le_refl _) (by omega)) z9)
        refine j_aload_n C0 dL_hours_143 rfl ?_
        refine j_iconst C0 (v := 2) dL_hours_144 (by decide) ?_
        refine j_dup2 C0 dL_hours_145 rfl rfl ?_
        refine l_ldcN C0 (i := 2) (by omega) dL_hours_146 (v := nI (N 1)) ((c1n 2 (by decide)).trans hL.2.2.2.2.1) ?_
        refine j_iload C0 dL_hours_147 rfl ?_
        refine j_iadd C0 dL_hours_149 ?_
        refine j_top (nI ((N 1) + bg)) (nI_add (N 1) bg) ?_
        refine l_stcN C0 (i := 2) (by omega) dL_hours_150 ?_
        generalize ec2 : upd cf1 2 (nI (N 1 + bg)) = cf2
        have c22 : cf2 2 = nI (N1 1) := by rw [← ec2, up_s, hbe]
        have c2n : ∀ i, ¬ i = 2 → cf2 i = cf1 i := fun i hi => by rw [← ec2, up_n hi]
        have c20 : cf2 0 = nI (t + 1) := (c2n 0 (by decide)).trans c10
        have c21 : cf2 1 = nI (N 0) := (c2n 1 (by decide)).trans ((c1n 1 (by decide)).trans hL.2.2.2.1)
        have c23 : cf2 3 = nI (N 2) := (c2n 3 (by decide)).trans ((c1n 3 (by decide)).trans hL.2.2.2.2.2.1)
        refine j_iconst C0 (v := 0) dL_hours_151 (by decide) ?_
        refine j_istore C0 (L' := [(0, .ref (ad 0)), (1, .ref (ac)), (2, .ref (ap)), (3, .int (nf (fun j w => w - G 14 j) (0 : Int32) (N 0))), (4, .int (nf (fun j w => w - G 15 j) (0 : Int32) (N 0))), (5, .int (nI bg)), (6, .int ((1 : Int32))), (7, .int ((0 : Int32)))]) dL_hours_152 (by decide) rfl ?_
        refine j_iconst C0 (v := 0) dL_hours_154 (by decide) ?_
        refine j_istore C0 (L' := [(0, .ref (ad 0)), (1, .ref (ac)), (2, .ref (ap)), (3, .int (nf (fun j w => w - G 14 j) (0 : Int32) (N 0))), (4, .int (nf (fun j w => w - G 15 j) (0 : Int32) (N 0))), (5, .int (nI bg)), (6, .int ((1 : Int32))), (7, .int ((0 : Int32))), (8, .int ((0 : Int32)))]) dL_hours_155 (by decide) rfl ?_
        refine j_widen (k := 352 + 8 * 0) (n := 3288 + 48 * 0) (by omega) (by omega) ?_
        refine j_castL (L' := [(0, .ref (ad 0)), (1, .ref (ac)), (2, .ref (ap)), (3, .int (nf (fun s w => w + G1 14 s) (nf (fun j w => w - G 14 j) (0 : Int32) (N 0)) 0)), (4, .int (nf (fun s w => w + G1 15 s) (nf (fun j w => w - G 15 j) (0 : Int32) (N 0)) 0)), (5, .int (nI bg)), (6, .int ((1 : Int32))), (7, .int (nI (zC (zGn (G 12) (G1 12)) 0))), (8, .int (nI 0))]) (rfl) ?_
        refine l_loop (P := fun (ss : Nat) => J p l e _ s m args below meth c (fun q => z ≤ q) 11 _ (LV D Y z tE ac ap ad F1 G1 N1 Q1 cf2 (zpj (G1 10) (G1 12) pf ss)) (352 + 8 * ss) (3288 + 48 * ss) 157 [(0, .ref (ad 0)), (1, .ref (ac)), (2, .ref (ap)), (3, .int (nf (fun s w => w + G1 14 s) (nf (fun j w => w - G 14 j) (0 : Int32) (N 0)) ss)), (4, .int (nf (fun s w => w + G1 15 s) (nf (fun j w => w - G 15 j) (0 : Int32) (N 0)) ss)), (5, .int (nI bg)), (6, .int ((1 : Int32))), (7, .int (nI (zC (zGn (G 12) (G1 12)) ss))), (8, .int (nI ss))] []) (N 0) ?_ (fun ss hss K157 => ?_)
        rotate_left
        ·
          show J p l e _ s m args below meth c (fun q => z ≤ q) 11 _ (LV D Y z tE ac ap ad F1 G1 N1 Q1 cf2 (zpj (G1 10) (G1 12) pf ss)) (352 + 8 * ss) (3288 + 48 * ss) 157 [(0, .ref (ad 0)), (1, .ref (ac)), (2, .ref (ap)), (3, .int (nf (fun s w => w + G1 14 s) (nf (fun j w => w - G 14 j) (0 : Int32) (N 0)) ss)), (4, .int (nf (fun s w => w + G1 15 s) (nf (fun j w => w - G 15 j) (0 : Int32) (N 0)) ss)), (5, .int (nI bg)), (6, .int ((1 : Int32))), (7, .int (nI (zC (zGn (G 12) (G1 12)) ss))), (8, .int (nI ss))] []
          replace K157 : J p l e _ s m args below meth c (fun q => z ≤ q) 11 _ (LV D Y z tE ac ap ad F1 G1 N1 Q1 cf2 (zpj (G1 10) (G1 12) pf (ss + 1))) (352 + 8 * (ss + 1)) (3288 + 48 * (ss + 1)) 157 [(0, .ref (ad 0)), (1, .ref (ac)), (2, .ref (ap)), (3, .int (nf (fun s w => w + G1 14 s) (nf (fun j w => w - G 14 j) (0 : Int32) (N 0)) (ss + 1))), (4, .int (nf (fun s w => w + G1 15 s) (nf (fun j w => w - G 15 j) (0 : Int32) (N 0)) (ss + 1))), (5, .int (nI bg)), (6, .int ((1 : Int32))), (7, .int (nI (zC (zGn (G 12) (G1 12)) (ss + 1)))), (8, .int (nI (ss + 1)))] [] := K157
          have mI9 := hMI ss hss
          have od := zo_ord (hO12 ss hss)
          obtain ⟨ho, hst⟩ := h94 ss hss
          have zh := zpj_hi (g10 := G1 10) (g12 := G1 12) (pf := pf) (Nat.le_refl ss) (show ss < 10 by omega)
          have hqv := zv_queue hJ1 (k := ss) (by omega)
          refine j_iload C0 dL_hours_157 rfl ?_
          refine j_aload_n C0 dL_hours_159 rfl ?_
          refine j_iconst C0 (v := 1) dL_hours_160 (by decide) ?_
          refine l_ldcN C0 (i := 1) (by omega) dL_hours_161 (v := nI (N 0)) c21 ?_
          refine j_icmp_ge C0 346 dL_hours_162 (by decide) (fun z9 => absurd z9 (nI_ge (by omega) (by omega))) (fun _ => ?_)
          refine j_iload C0 dL_hours_165 rfl ?_
          refine j_if_eq C0 346 dL_hours_167 (by decide) (fun z9 => absurd z9 (by decide)) (fun _ => ?_)
          refine j_aload_n C0 dL_hours_170 rfl ?_
          refine j_iload C0 dL_hours_171 rfl ?_
          refine j_callVv C0 (lv_kx (z := z) (ac := ac) (ap := ap) (cf := cf2) (pf := (zpj (G1 10) (G1 12) pf ss)) (show eX6_queue F1 G1 N1 Q1 (nI ss) = 0 ∧ vX6_queue F1 G1 N1 Q1 (nI ss) = vX6_queue F1 G1 N1 Q1 (nI ss) from ⟨hqv.1, rfl⟩).1 (show eX6_queue F1 G1 N1 Q1 (nI ss) = 0 ∧ vX6_queue F1 G1 N1 Q1 (nI ss) = vX6_queue F1 G1 N1 Q1 (nI ss) from ⟨hqv.1, rfl⟩).2 (k_X6_queue hsl (A := AC z ac ap) (E := EC (AC z ac ap) tE mi) (fun U h => h) ad F1 G1 N1 Q1 (nI ss) )) mv_X6_queue wm_L_45 (lv_recv C0) rfl rfl ⟨Nat.le_of_ble_eq_true rfl, Nat.le_of_ble_eq_true rfl⟩ (Nat.le_of_ble_eq_true rfl) ⟨by show _ ≤ (480 : Nat); omega, by show _ ≤ (4060 : Nat); omega⟩ dL_hours_173 ?_
          refine j_iconst C0 (v := -1) dL_hours_176 (by decide) ?_
          refine j_icmp_eq C0 184 dL_hours_177 (by decide) (fun (q1 : vX6_queue F1 G1 N1 Q1 (nI ss) = (-1 : Int32)) => ?_) (fun (q1 : ¬ (vX6_queue F1 G1 N1 Q1 (nI ss) = (-1 : Int32))) => ?_)
          ·
            have hno : G1 12 ss = -1 := by
              apply Classical.byContradiction
              intro z9
              exact hqv.2.2.2 z9 q1
            refine j_iconst C0 (v := 0) dL_hours_184 (by decide) ?_
            refine j_istore C0 (L' := [(0, .ref (ad 0)), (1, .ref (ac)), (2, .ref (ap)), (3, .int (nf (fun s w => w + G1 14 s) (nf (fun j w => w - G 14 j) (0 : Int32) (N 0)) ss)), (4, .int (nf (fun s w => w + G1 15 s) (nf (fun j w => w - G 15 j) (0 : Int32) (N 0)) ss)), (5, .int (nI bg)), (6, .int ((1 : Int32))), (7, .int (nI (zC (zGn (G 12) (G1 12)) ss))), (8, .int (nI ss)), (9, .int ((0 : Int32)))]) dL_hours_185 (by decide) rfl ?_
            refine j_aload_n C0 dL_hours_187 rfl ?_
            refine j_iload C0 dL_hours_188 rfl ?_
            refine j_callVv C0 (lv_kx (z := z) (ac := ac) (ap := ap) (cf := cf2) (pf := (zpj (G1 10) (G1 12) pf ss)) (zv_state (F := F1) (G := G1) (N := N1) (Q := Q1) (k := ss) (by omega) (by omega)).1 (zv_state (F := F1) (G := G1) (N := N1) (Q := Q1) (k := ss) (by omega) (by omega)).2 (k_X6_state hsl (A := AC z ac ap) (E := EC (AC z ac ap) tE mi) (fun U h => h) ad F1 G1 N1 Q1 (nI ss) )) mv_X6_state wm_L_80 (lv_recv C0) rfl rfl ⟨Nat.le_of_ble_eq_true rfl, Nat.le_of_ble_eq_true rfl⟩ (Nat.le_of_ble_eq_true rfl) ⟨by show _ ≤ (480 : Nat); omega, by show _ ≤ (4060 : Nat); omega⟩ dL_hours_190 ?_
            refine j_istore C0 (L' := [(0, .ref (ad 0)), (1, .ref (ac)), (2, .ref (ap)), (3, .int (nf (fun s w => w + G1 14 s) (nf (fun j w => w - G 14 j) (0 : Int32) (N 0)) ss)), (4, .int (nf (fun s w => w + G1 15 s) (nf (fun j w => w - G 15 j) (0 : Int32) (N 0)) ss)), (5, .int (nI bg)), (6, .int ((1 : Int32))), (7, .int (nI (zC (zGn (G 12) (G1 12)) ss))), (8, .int (nI ss)), (9, .int ((0 : Int32))), (10, .int (G1 10 ss))]) dL_hours_193 (by decide) rfl ?_
            refine j_iload C0 dL_hours_195 rfl ?_
            refine j_aload_n C0 dL_hours_197 rfl ?_
            refine j_bipush C0 (v := 50) dL_hours_198 (by decide) ?_
            refine j_iload C0 dL_hours_200 rfl ?_
            refine j_iadd C0 dL_hours_202 ?_
            refine j_top (nI (50 + ss)) (nI_add 50 ss) ?_
            refine l_ldpN C0 (i := 50 + ss) (by omega) dL_hours_203 (v := pf (50 + ss)) zh.1 ?_
            refine j_if_le C0 216 dL_hours_204 (by decide) (fun (q2 : pf (50 + ss) ≤ 0) => ?_) (fun (q2 : ¬ (pf (50 + ss) ≤ 0)) => ?_)
            ·
              have hg : G 12 ss = -1 := by
                rcases od with ⟨a9, _⟩ | ⟨_, y, y1, y2, y3, y4⟩
                · exact a9
                · rw [mI9.2.2.2.2.2, y4] at q2
                  exact absurd q2 (nI_nle (by omega) (by omega))
              refine j_iconst C0 (v := 0) dL_hours_216 (by decide) ?_
              refine j_iadd C0 dL_hours_217 ?_
              refine j_top (nI (zC (zGn (G 12) (G1 12)) (ss + 1))) (zC_fI (zGn_f (Or.inl hg))) ?_
              refine j_istore C0 (L' := [(0, .ref (ad 0)), (1, .ref (ac)), (2, .ref (ap)), (3, .int (nf (fun s w => w + G1 14 s) (nf (fun j w => w - G 14 j) (0 : Int32) (N 0)) ss)), (4, .int (nf (fun s w => w + G1 15 s) (nf (fun j w => w - G 15 j) (0 : Int32) (N 0)) ss)), (5, .int (nI bg)), (6, .int ((1 : Int32))), (7, .int (nI (zC (zGn (G 12) (G1 12)) (ss + 1)))), (8, .int (nI ss)), (9, .int ((0 : Int32))), (10, .int (G1 10 ss))]) dL_hours_218 (by decide) rfl ?_
              refine j_aload_n C0 dL_hours_220 rfl ?_
              refine j_bipush C0 (v := 50) dL_hours_221 (by decide) ?_
              refine j_iload C0 dL_hours_223 rfl ?_
              refine j_iadd C0 dL_hours_225 ?_
              refine j_top (nI (50 + ss)) (nI_add 50 ss) ?_
              refine l_ldpN C0 (i := 50 + ss) (by omega) dL_hours_226 (v := pf (50 + ss)) zh.1 ?_
              refine j_if_gt C0 235 dL_hours_227 (by decide) (fun z9 => absurd z9 (Int32.not_lt.mpr q2)) (fun _ => ?_)
              refine j_iload C0 dL_hours_230 rfl ?_
              refine j_if_ne C0 285 dL_hours_232 (by decide) (fun z9 => absurd (by decide) z9) (fun _ => ?_)
              refine j_iload C0 dL_hours_235 rfl ?_
              refine j_if_eq C0 255 dL_hours_237 (by decide) (fun _ => ?_) (fun z9 => absurd (by decide) z9)
              refine j_iload C0 dL_hours_255 rfl ?_
              refine j_aload_n C0 dL_hours_257 rfl ?_
              refine j_bipush C0 (v := 40) dL_hours_258 (by decide) ?_
              refine j_iload C0 dL_hours_260 rfl ?_
              refine j_iadd C0 dL_hours_262 ?_
              refine j_top (nI (40 + ss)) (nI_add 40 ss) ?_
              refine l_ldpN C0 (i := 40 + ss) (by omega) dL_hours_263 (v := G 10 ss) (zh.2.trans mI9.2.2.2.2.1) ?_
              refine j_icmp_eq C0 281 dL_hours_264 (by decide) (fun (q3 : G1 10 ss = G 10 ss) => ?_) (fun (q3 : ¬ (G1 10 ss = G 10 ss)) => ?_)
              ·
                refine j_iconst C0 (v := 1) dL_hours_281 (by decide) ?_
                refine j_goto C0 286 dL_hours_282 (by decide) ?_
                refine j_istore C0 (L' := [(0, .ref (ad 0)), (1, .ref (ac)), (2, .ref (ap)), (3, .int (nf (fun s w => w + G1 14 s) (nf (fun j w => w - G 14 j) (0 : Int32) (N 0)) ss)), (4, .int (nf (fun s w => w + G1 15 s) (nf (fun j w => w - G 15 j) (0 : Int32) (N 0)) ss)), (5, .int (nI bg)), (6, .int ((1 : Int32))), (7, .int (nI (zC (zGn (G 12) (G1 12)) (ss + 1)))), (8, .int (nI ss)), (9, .int ((0 : Int32))), (10, .int (G1 10 ss))]) dL_hours_286 (by decide) rfl ?_
                refine j_aload_n C0 dL_hours_288 rfl ?_
                refine j_bipush C0 (v := 50) dL_hours_289 (by decide) ?_
                refine j_iload C0 dL_hours_291 rfl ?_
                refine j_iadd C0 dL_hours_293 ?_
                refine j_top (nI (50 + ss)) (nI_add 50 ss) ?_
                refine j_iload C0 dL_hours_294 rfl ?_
                refine j_if_eq C0 309 dL_hours_296 (by decide) (fun _ => ?_) (fun z9 => absurd (by decide) z9)
                refine j_iconst C0 (v := 0) dL_hours_309 (by decide) ?_
                refine j_top (zo12 (G1 12 ss)) (by rw [zo12, if_pos hno]) ?_
                refine l_stpN C0 (i := 50 + ss) (by omega) dL_hours_310 ?_
                refine j_aload_n C0 dL_hours_311 rfl ?_
                refine j_bipush C0 (v := 40) dL_hours_312 (by decide) ?_
                refine j_iload C0 dL_hours_314 rfl ?_
                refine j_iadd C0 dL_hours_316 ?_
                refine j_top (nI (40 + ss)) (nI_add 40 ss) ?_
                refine j_iload C0 dL_hours_317 rfl ?_
                refine l_stpN C0 (i := 40 + ss) (by omega) dL_hours_319 ?_
                refine j_iload_n C0 dL_hours_320 rfl ?_
                refine j_aload_n C0 dL_hours_321 rfl ?_
                refine j_iload C0 dL_hours_322 rfl ?_
                refine j_callVv C0 (lv_kx (z := z) (ac := ac) (ap := ap) (cf := cf2) (pf := (upd (upd (zpj (G1 10) (G1 12) pf ss) (50 + ss) (zo12 (G1 12 ss))) (40 + ss) (G1 10 ss))) (zv_lost (F := F1) (G := G1) (N := N1) (Q := Q1) (k := ss) (by omega) (by omega)).1 (zv_lost (F := F1) (G := G1) (N := N1) (Q := Q1) (k := ss) (by omega) (by omega)).2 (k_X6_lost hsl (A := AC z ac ap) (E := EC (AC z ac ap) tE mi) (fun U h => h) ad F1 G1 N1 Q1 (nI ss) )) mv_X6_lost wm_L_91 (lv_recv C0) rfl rfl ⟨Nat.le_of_ble_eq_true rfl, Nat.le_of_ble_eq_true rfl⟩ (Nat.le_of_ble_eq_true rfl) ⟨by show _ ≤ (480 : Nat); omega, by show _ ≤ (4060 : Nat); omega⟩ dL_hours_324 ?_
                refine j_iadd C0 dL_hours_327 ?_
                refine j_istore_n C0 (L' := [(0, .ref (ad 0)), (1, .ref (ac)), (2, .ref (ap)), (3, .int ((nf (fun s w => w + G1 14 s) (nf (fun j w => w - G 14 j) (0 : Int32) (N 0)) ss + G1 14 ss))), (4, .int (nf (fun s w => w + G1 15 s) (nf (fun j w => w - G 15 j) (0 : Int32) (N 0)) ss)), (5, .int (nI bg)), (6, .int ((1 : Int32))), (7, .int (nI (zC (zGn (G 12) (G1 12)) (ss + 1)))), (8, .int (nI ss)), (9, .int ((0 : Int32))), (10, .int (G1 10 ss))]) dL_hours_328 (by decide) rfl ?_
                refine j_iload C0 dL_hours_329 rfl ?_
                refine j_aload_n C0 dL_hours_331 rfl ?_
                refine j_iload C0 dL_hours_332 rfl ?_
                refine j_callVv C0 (lv_kx (z := z) (ac := ac) (ap := ap) (cf := cf2) (pf := (upd (upd (zpj (G1 10) (G1 12) pf ss) (50 + ss) (zo12 (G1 12 ss))) (40 + ss) (G1 10 ss))) (zv_claims (F := F1) (G := G1) (N := N1) (Q := Q1) (k := ss) (by omega) (by omega)).1 (zv_claims (F := F1) (G := G1) (N := N1) (Q := Q1) (k := ss) (by omega) (by omega)).2 (k_X6_claims hsl (A := AC z ac ap) (E := EC (AC z ac ap) tE mi) (fun U h => h) ad F1 G1 N1 Q1 (nI ss) )) mv_X6_claims wm_L_61 (lv_recv C0) rfl rfl ⟨Nat.le_of_ble_eq_true rfl, Nat.le_of_ble_eq_true rfl⟩ (Nat.le_of_ble_eq_true rfl) ⟨by show _ ≤ (480 : Nat); omega, by show _ ≤ (4060 : Nat); omega⟩ dL_hours_334 ?_
                refine j_iadd C0 dL_hours_337 ?_
                refine j_istore C0 (L' := [(0, .ref (ad 0)), (1, .ref (ac)), (2, .ref (ap)), (3, .int ((nf (fun s w => w + G1 14 s) (nf (fun j w => w - G 14 j) (0 : Int32) (N 0)) ss + G1 14 ss))), (4, .int ((nf (fun s w => w + G1 15 s) (nf (fun j w => w - G 15 j) (0 : Int32) (N 0)) ss + G1 15 ss))), (5, .int (nI bg)), (6, .int ((1 : Int32))), (7, .int (nI (zC (zGn (G 12) (G1 12)) (ss + 1)))), (8, .int (nI ss)), (9, .int ((0 : Int32))), (10, .int (G1 10 ss))]) dL_hours_338 (by decide) rfl ?_
                refine j_iinc C0 (v := nI (ss + 1)) (L' := [(0, .ref (ad 0)), (1, .ref (ac)), (2, .ref (ap)), (3, .int ((nf (fun s w => w + G1 14 s) (nf (fun j w => w - G 14 j) (0 : Int32) (N 0)) ss + G1 14 ss))), (4, .int ((nf (fun s w => w + G1 15 s) (nf (fun j w => w - G 15 j) (0 : Int32) (N 0)) ss + G1 15 ss))), (5, .int (nI bg)), (6, .int ((1 : Int32))), (7, .int (nI (zC (zGn (G 12) (G1 12)) (ss + 1)))), (8, .int (nI (ss + 1))), (9, .int ((0 : Int32))), (10, .int (G1 10 ss))]) dL_hours_340 rfl (nI_inc ss) (by decide) rfl ?_
                refine j_goto C0 157 dL_hours_343 (by decide) ?_
                refine j_widen (k := 352 + 8 * (ss + 1)) (n := 3288 + 48 * (ss + 1)) (by omega) (by omega) ?_
                refine j_locals (L' := [(0, .ref (ad 0)), (1, .ref (ac)), (2, .ref (ap)), (3, .int ((nf (fun s w => w + G1 14 s) (nf (fun j w => w - G 14 j) (0 : Int32) (N 0)) ss + G1 14 ss))), (4, .int ((nf (fun s w => w + G1 15 s) (nf (fun j w => w - G 15 j) (0 : Int32) (N 0)) ss + G1 15 ss))), (5, .int (nI bg)), (6, .int ((1 : Int32))), (7, .int (nI (zC (zGn (G 12) (G1 12)) (ss + 1)))), (8, .int (nI (ss + 1)))]) (fun q hq => by simp only [List.mem_cons, List.mem_nil_iff, or_false] at hq ⊢; rcases hq with rfl | rfl | rfl | rfl | rfl | rfl | rfl | rfl | rfl <;> simp) (lok_of rfl rfl) ?_
                exact K157
              ·
                refine j_iload C0 dL_hours_267 rfl ?_
                refine j_aload_n C0 dL_hours_269 rfl ?_
                refine j_bipush C0 (v := 40) dL_hours_270 (by decide) ?_
                refine j_iload C0 dL_hours_272 rfl ?_
                refine j_iadd C0 dL_hours_274 ?_
                refine j_top (nI (40 + ss)) (nI_add 40 ss) ?_
                refine l_ldpN C0 (i := 40 + ss) (by omega) dL_hours_275 (v := G 10 ss) (zh.2.trans mI9.2.2.2.2.1) ?_
                refine j_iconst C0 (v := 1) dL_hours_276 (by decide) ?_
                refine j_iadd C0 dL_hours_277 ?_
                refine j_icmp_ne C0 285 dL_hours_278 (by decide) (fun z9 => absurd (hst.resolve_left q3) z9) (fun _ => ?_)
                refine j_iconst C0 (v := 1) dL_hours_281 (by decide) ?_
                refine j_goto C0 286 dL_hours_282 (by decide) ?_
                refine j_istore C0 (L' := [(0, .ref (ad 0)), (1, .ref (ac)), (2, .ref (ap)), (3, .int (nf (fun s w => w + G1 14 s) (nf (fun j w => w - G 14 j) (0 : Int32) (N 0)) ss)), (4, .int (nf (fun s w => w + G1 15 s) (nf (fun j w => w - G 15 j) (0 : Int32) (N 0)) ss)), (5, .int (nI bg)), (6, .int ((1 : Int32))), (7, .int (nI (zC (zGn (G 12) (G1 12)) (ss + 1)))), (8, .int (nI ss)), (9, .int ((0 : Int32))), (10, .int (G1 10 ss))]) dL_hours_286 (by decide) rfl ?_
                refine j_aload_n C0 dL_hours_288 rfl ?_
                refine j_bipush C0 (v := 50) dL_hours_289 (by decide) ?_
                refine j_iload C0 dL_hours_291 rfl ?_
                refine j_iadd C0 dL_hours_293 ?_
                refine j_top (nI (50 + ss)) (nI_add 50 ss) ?_
                refine j_iload C0 dL_hours_294 rfl ?_
                refine j_if_eq C0 309 dL_hours_296 (by decide) (fun _ => ?_) (fun z9 => absurd (by decide) z9)
                refine j_iconst C0 (v := 0) dL_hours_309 (by decide) ?_
                refine j_top (zo12 (G1 12 ss)) (by rw [zo12, if_pos hno]) ?_
                refine l_stpN C0 (i := 50 + ss) (by omega) dL_hours_310 ?_
                refine j_aload_n C0 dL_hours_311 rfl ?_
                refine j_bipush C0 (v := 40) dL_hours_312 (by decide) ?_
                refine j_iload C0 dL_hours_314 rfl ?_
                refine j_iadd C0 dL_hours_316 ?_
                refine j_top (nI (40 + ss)) (nI_add 40 ss) ?_
                refine j_iload C0 dL_hours_317 rfl ?_
                refine l_stpN C0 (i := 40 + ss) (by omega) dL_hours_319 ?_
                refine j_iload_n C0 dL_hours_320 rfl ?_
                refine j_aload_n C0 dL_hours_321 rfl ?_
                refine j_iload C0 dL_hours_322 rfl ?_
                refine j_callVv C0 (lv_kx (z := z) (ac := ac) (ap := ap) (cf := cf2) (pf := (upd (upd (zpj (G1 10) (G1 12) pf ss) (50 + ss) (zo12 (G1 12 ss))) (40 + ss) (G1 10 ss))) (zv_lost (F := F1) (G := G1) (N := N1) (Q := Q1) (k := ss) (by omega) (by omega)).1 (zv_lost (F := F1) (G := G1) (N := N1) (Q := Q1) (k := ss) (by omega) (by omega)).2 (k_X6_lost hsl (A := AC z ac ap) (E := EC (AC z ac ap) tE mi) (fun U h => h) ad F1 G1 N1 Q1 (nI ss) )) mv_X6_lost wm_L_91 (lv_recv C0) rfl rfl ⟨Nat.le_of_ble_eq_true rfl, Nat.le_of_ble_eq_true rfl⟩ (Nat.le_of_ble_eq_true rfl) ⟨by show _ ≤ (480 : Nat); omega, by show _ ≤ (4060 : Nat); omega⟩ dL_hours_324 ?_
                refine j_iadd C0 dL_hours_327 ?_
                refine j_istore_n C0 (L' := [(0, .ref (ad 0)), (1, .ref (ac)), (2, .ref (ap)), (3, .int ((nf (fun s w => w + G1 14 s) (nf (fun j w => w - G 14 j) (0 : Int32) (N 0)) ss + G1 14 ss))), (4, .int (nf (fun s w => w + G1 15 s) (nf (fun j w => w - G 15 j) (0 : Int32) (N 0)) ss)), (5, .int (nI bg)), (6, .int ((1 : Int32))), (7, .int (nI (zC (zGn (G 12) (G1 12)) (ss + 1)))), (8, .int (nI ss)), (9, .int ((0 : Int32))), (10, .int (G1 10 ss))]) dL_hours_328 (by decide) rfl ?_
                refine j_iload C0 dL_hours_329 rfl ?_
                refine j_aload_n C0 dL_hours_331 rfl ?_
                refine j_iload C0 dL_hours_332 rfl ?_
                refine j_callVv C0 (lv_kx (z := z) (ac := ac) (ap := ap) (cf := cf2) (pf := (upd (upd (zpj (G1 10) (G1 12) pf ss) (50 + ss) (zo12 (G1 12 ss))) (40 + ss) (G1 10 ss))) (zv_claims (F := F1) (G := G1) (N := N1) (Q := Q1) (k := ss) (by omega) (by omega)).1 (zv_claims (F := F1) (G := G1) (N := N1) (Q := Q1) (k := ss) (by omega) (by omega)).2 (k_X6_claims hsl (A := AC z ac ap) (E := EC (AC z ac ap) tE mi) (fun U h => h) ad F1 G1 N1 Q1 (nI ss) )) mv_X6_claims wm_L_61 (lv_recv C0) rfl rfl ⟨Nat.le_of_ble_eq_true rfl, Nat.le_of_ble_eq_true rfl⟩ (Nat.le_of_ble_eq_true rfl) ⟨by show _ ≤ (480 : Nat); omega, by show _ ≤ (4060 : Nat); omega⟩ dL_hours_334 ?_
                refine j_iadd C0 dL_hours_337 ?_
                refine j_istore C0 (L' := [(0, .ref (ad 0)), (1, .ref (ac)), (2, .ref (ap)), (3, .int ((nf (fun s w => w + G1 14 s) (nf (fun j w => w - G 14 j) (0 : Int32) (N 0)) ss + G1 14 ss))), (4, .int ((nf (fun s w => w + G1 15 s) (nf (fun j w => w - G 15 j) (0 : Int32) (N 0)) ss + G1 15 ss))), (5, .int (nI bg)), (6, .int ((1 : Int32))), (7, .int (nI (zC (zGn (G 12) (G1 12)) (ss + 1)))), (8, .int (nI ss)), (9, .int ((0 : Int32))), (10, .int (G1 10 ss))]) dL_hours_338 (by decide) rfl ?_
                refine j_iinc C0 (v := nI (ss + 1)) (L' := [(0, .ref (ad 0)), (1, .ref (ac)), (2, .ref (ap)), (3, .int ((nf (fun s w => w + G1 14 s) (nf (fun j w => w - G 14 j) (0 : Int32) (N 0)) ss + G1 14 ss))), (4, .int ((nf (fun s w => w + G1 15 s) (nf (fun j w => w - G 15 j) (0 : Int32) (N 0)) ss + G1 15 ss))), (5, .int (nI bg)), (6, .int ((1 : Int32))), (7, .int (nI (zC (zGn (G 12) (G1 12)) (ss + 1)))), (8, .int (nI (ss + 1))), (9, .int ((0 : Int32))), (10, .int (G1 10 ss))]) dL_hours_340 rfl (nI_inc ss) (by decide) rfl ?_
                refine j_goto C0 157 dL_hours_343 (by decide) ?_
                refine j_widen (k := 352 + 8 * (ss + 1)) (n := 3288 + 48 * (ss + 1)) (by omega) (by omega) ?_
                refine j_locals (L' := [(0, .ref (ad 0)), (1, .ref (ac)), (2, .ref (ap)), (3, .int ((nf (fun s w => w + G1 14 s) (nf (fun j w => w - G 14 j) (0 : Int32) (N 0)) ss + G1 14 ss))), (4, .int ((nf (fun s w => w + G1 15 s) (nf (fun j w => w - G 15 j) (0 : Int32) (N 0)) ss + G1 15 ss))), (5, .int (nI bg)), (6, .int ((1 : Int32))), (7, .int (nI (zC (zGn (G 12) (G1 12)) (ss + 1)))), (8, .int (nI (ss + 1)))]) (fun q hq => by simp only [List.mem_cons, List.mem_nil_iff, or_false] at hq ⊢; rcases hq with rfl | rfl | rfl | rfl | rfl | rfl | rfl | rfl | rfl <;> simp) (lok_of rfl rfl) ?_
                exact K157
            ·
              have hg : ¬ G 12 ss = -1 := fun z9 => q2 (by rw [mI9.2.2.2.2.2, zo12, if_pos z9]; decide)
              refine j_iload C0 dL_hours_207 rfl ?_
              refine j_if_ne C0 216 dL_hours_209 (by decide) (fun z9 => absurd (by decide) z9) (fun _ => ?_)
              refine j_iconst C0 (v := 1) dL_hours_212 (by decide) ?_
              refine j_goto C0 217 dL_hours_213 (by decide) ?_
              refine j_iadd C0 dL_hours_217 ?_
              refine j_top (nI (zC (zGn (G 12) (G1 12)) (ss + 1))) (zC_tI (zGn_t hg hno)) ?_
              refine j_istore C0 (L' := [(0, .ref (ad 0)), (1, .ref (ac)), (2, .ref (ap)), (3, .int (nf (fun s w => w + G1 14 s) (nf (fun j w => w - G 14 j) (0 : Int32) (N 0)) ss)), (4, .int (nf (fun s w => w + G1 15 s) (nf (fun j w => w - G 15 j) (0 : Int32) (N 0)) ss)), (5, .int (nI bg)), (6, .int ((1 : Int32))), (7, .int (nI (zC (zGn (G 12) (G1 12)) (ss + 1)))), (8, .int (nI ss)), (9, .int ((0 : Int32))), (10, .int (G1 10 ss))]) dL_hours_218 (by decide) rfl ?_
              refine j_aload_n C0 dL_hours_220 rfl ?_
              refine j_bipush C0 (v := 50) dL_hours_221 (by decide) ?_
              refine j_iload C0 dL_hours_223 rfl ?_
              refine j_iadd C0 dL_hours_225 ?_
              refine j_top (nI (50 + ss)) (nI_add 50 ss) ?_
              refine l_ldpN C0 (i := 50 + ss) (by omega) dL_hours_226 (v := pf (50 + ss)) zh.1 ?_
              refine j_if_gt C0 235 dL_hours_227 (by decide) (fun _ => ?_) (fun z9 => absurd (Int32.not_le.mp q2) z9)
              refine j_iload C0 dL_hours_235 rfl ?_
              refine j_if_eq C0 255 dL_hours_237 (by decide) (fun _ => ?_) (fun z9 => absurd (by decide) z9)
              refine j_iload C0 dL_hours_255 rfl ?_
              refine j_aload_n C0 dL_hours_257 rfl ?_
              refine j_bipush C0 (v := 40) dL_hours_258 (by decide) ?_
              refine j_iload C0 dL_hours_260 rfl ?_
              refine j_iadd C0 dL_hours_262 ?_
              refine j_top (nI (40 + ss)) (nI_add 40 ss) ?_
              refine l_ldpN C0 (i := 40 + ss) (by omega) dL_hours_263 (v := G 10 ss) (zh.2.trans mI9.2.2.2.2.1) ?_
              refine j_icmp_eq C0 281 dL_hours_264 (by decide) (fun (q4 : G1 10 ss = G 10 ss) => ?_) (fun (q4 : ¬ (G1 10 ss = G 10 ss)) => ?_)
              ·
                refine j_iconst C0 (v := 1) dL_hours_281 (by decide) ?_
                refine j_goto C0 286 dL_hours_282 (by decide) ?_
                refine j_istore C0 (L' := [(0, .ref (ad 0)), (1, .ref (ac)), (2, .ref (ap)), (3, .int (nf (fun s w => w + G1 14 s) (nf (fun j w => w - G 14 j) (0 : Int32) (N 0)) ss)), (4, .int (nf (fun s w => w + G1 15 s) (nf (fun j w => w - G 15 j) (0 : Int32) (N 0)) ss)), (5, .int (nI bg)), (6, .int ((1 : Int32))), (7, .int (nI (zC (zGn (G 12) (G1 12)) (ss + 1)))), (8, .int (nI ss)), (9, .int ((0 : Int32))), (10, .int (G1 10 ss))]) dL_hours_286 (by decide) rfl ?_
                refine j_aload_n C0 dL_hours_288 rfl ?_
                refine j_bipush C0 (v := 50) dL_hours_289 (by decide) ?_
                refine j_iload C0 dL_hours_291 rfl ?_
                refine j_iadd C0 dL_hours_293 ?_
                refine j_top (nI (50 + ss)) (nI_add 50 ss) ?_
                refine j_iload C0 dL_hours_294 rfl ?_
                refine j_if_eq C0 309 dL_hours_296 (by decide) (fun _ => ?_) (fun z9 => absurd (by decide) z9)
                refine j_iconst C0 (v := 0) dL_hours_309 (by decide) ?_
                refine j_top (zo12 (G1 12 ss)) (by rw [zo12, if_pos hno]) ?_
                refine l_stpN C0 (i := 50 + ss) (by omega) dL_hours_310 ?_
                refine j_aload_n C0 dL_hours_311 rfl ?_
                refine j_bipush C0 (v := 40) dL_hours_312 (by decide) ?_
                refine j_iload C0 dL_hours_314 rfl ?_
                refine j_iadd C0 dL_hours_316 ?_
                refine j_top (nI (40 + ss)) (nI_add 40 ss) ?_
                refine j_iload C0 dL_hours_317 rfl ?_
                refine l_stpN C0 (i := 40 + ss) (by omega) dL_hours_319 ?_
                refine j_iload_n C0 dL_hours_320 rfl ?_
                refine j_aload_n C0 dL_hours_321 rfl ?_
                refine j_iload C0 dL_hours_322 rfl ?_
                refine j_callVv C0 (lv_kx (z := z) (ac := ac) (ap := ap) (cf := cf2) (pf := (upd (upd (zpj (G1 10) (G1 12) pf ss) (50 + ss) (zo12 (G1 12 ss))) (40 + ss) (G1 10 ss))) (zv_lost (F := F1) (G := G1) (N := N1) (Q := Q1) (k := ss) (by omega) (by omega)).1 (zv_lost (F := F1) (G := G1) (N := N1) (Q := Q1) (k := ss) (by omega) (by omega)).2 (k_X6_lost hsl (A := AC z ac ap) (E := EC (AC z ac ap) tE mi) (fun U h => h) ad F1 G1 N1 Q1 (nI ss) )) mv_X6_lost wm_L_91 (lv_recv C0) rfl rfl ⟨Nat.le_of_ble_eq_true rfl, Nat.le_of_ble_eq_true rfl⟩ (Nat.le_of_ble_eq_true rfl) ⟨by show _ ≤ (480 : Nat); omega, by show _ ≤ (4060 : Nat); omega⟩ dL_hours_324 ?_
                refine j_iadd C0 dL_hours_327 ?_
                refine j_istore_n C0 (L' := [(0, .ref (ad 0)), (1, .ref (ac)), (2, .ref (ap)), (3, .int ((nf (fun s w => w + G1 14 s) (nf (fun j w => w - G 14 j) (0 : Int32) (N 0)) ss + G1 14 ss))), (4, .int (nf (fun s w => w + G1 15 s) (nf (fun j w => w - G 15 j) (0 : Int32) (N 0)) ss)), (5, .int (nI bg)), (6, .int ((1 : Int32))), (7, .int (nI (zC (zGn (G 12) (G1 12)) (ss + 1)))), (8, .int (nI ss)), (9, .int ((0 : Int32))), (10, .int (G1 10 ss))]) dL_hours_328 (by decide) rfl ?_
                refine j_iload C0 dL_hours_329 rfl ?_
                refine j_aload_n C0 dL_hours_331 rfl ?_
                refine j_iload C0 dL_hours_332 rfl ?_
                refine j_callVv C0 (lv_kx (z := z) (ac := ac) (ap := ap) (cf := cf2) (pf := (upd (upd (zpj (G1 10) (G1 12) pf ss) (50 + ss) (zo12 (G1 12 ss))) (40 + ss) (G1 10 ss))) (zv_claims (F := F1) (G := G1) (N := N1) (Q := Q1) (k := ss) (by omega) (by omega)).1 (zv_claims (F := F1) (G := G1) (N := N1) (Q := Q1) (k := ss) (by omega) (by omega)).2 (k_X6_claims hsl (A := AC z ac ap) (E := EC (AC z ac ap) tE mi) (fun U h => h) ad F1 G1 N1 Q1 (nI ss) )) mv_X6_claims wm_L_61 (lv_recv C0) rfl rfl ⟨Nat.le_of_ble_eq_true rfl, Nat.le_of_ble_eq_true rfl⟩ (Nat.le_of_ble_eq_true rfl) ⟨by show _ ≤ (480 : Nat); omega, by show _ ≤ (4060 : Nat); omega⟩ dL_hours_334 ?_
                refine j_iadd C0 dL_hours_337 ?_
                refine j_istore C0 (L' := [(0, .ref (ad 0)), (1, .ref (ac)), (2, .ref (ap)), (3, .int ((nf (fun s w => w + G1 14 s) (nf (fun j w => w - G 14 j) (0 : Int32) (N 0)) ss + G1 14 ss))), (4, .int ((nf (fun s w => w + G1 15 s) (nf (fun j w => w - G 15 j) (0 : Int32) (N 0)) ss + G1 15 ss))), (5, .int (nI bg)), (6, .int ((1 : Int32))), (7, .int (nI (zC (zGn (G 12) (G1 12)) (ss + 1)))), (8, .int (nI ss)), (9, .int ((0 : Int32))), (10, .int (G1 10 ss))]) dL_hours_338 (by decide) rfl ?_
                refine j_iinc C0 (v := nI (ss + 1)) (L' := [(0, .ref (ad 0)), (1, .ref (ac)), (2, .ref (ap)), (3, .int ((nf (fun s w => w + G1 14 s) (nf (fun j w => w - G 14 j) (0 : Int32) (N 0)) ss + G1 14 ss))), (4, .int ((nf (fun s w => w + G1 15 s) (nf (fun j w => w - G 15 j) (0 : Int32) (N 0)) ss + G1 15 ss))), (5, .int (nI bg)), (6, .int ((1 : Int32))), (7, .int (nI (zC (zGn (G 12) (G1 12)) (ss + 1)))), (8, .int (nI (ss + 1))), (9, .int ((0 : Int32))), (10, .int (G1 10 ss))]) dL_hours_340 rfl (nI_inc ss) (by decide) rfl ?_
                refine j_goto C0 157 dL_hours_343 (by decide) ?_
                refine j_widen (k := 352 + 8 * (ss + 1)) (n := 3288 + 48 * (ss + 1)) (by omega) (by omega) ?_
                refine j_locals (L' := [(0, .ref (ad 0)), (1, .ref (ac)), (2, .ref (ap)), (3, .int ((nf (fun s w => w + G1 14 s) (nf (fun j w => w - G 14 j) (0 : Int32) (N 0)) ss + G1 14 ss))), (4, .int ((nf (fun s w => w + G1 15 s) (nf (fun j w => w - G 15 j) (0 : Int32) (N 0)) ss + G1 15 ss))), (5, .int (nI bg)), (6, .int ((1 : Int32))), (7, .int (nI (zC (zGn (G 12) (G1 12)) (ss + 1)))), (8, .int (nI (ss + 1)))]) (fun q hq => by simp only [List.mem_cons, List.mem_nil_iff, or_false] at hq ⊢; rcases hq with rfl | rfl | rfl | rfl | rfl | rfl | rfl | rfl | rfl <;> simp) (lok_of rfl rfl) ?_
                exact K157
              ·
                refine j_iload C0 dL_hours_267 rfl ?_
                refine j_aload_n C0 dL_hours_269 rfl ?_
                refine j_bipush C0 (v := 40) dL_hours_270 (by decide) ?_
                refine j_iload C0 dL_hours_272 rfl ?_
                refine j_iadd C0 dL_hours_274 ?_
                refine j_top (nI (40 + ss)) (nI_add 40 ss) ?_
                refine l_ldpN C0 (i := 40 + ss) (by omega) dL_hours_275 (v := G 10 ss) (zh.2.trans mI9.2.2.2.2.1) ?_
                refine j_iconst C0 (v := 1) dL_hours_276 (by decide) ?_
                refine j_iadd C0 dL_hours_277 ?_
                refine j_icmp_ne C0 285 dL_hours_278 (by decide) (fun z9 => absurd (hst.resolve_left q4) z9) (fun _ => ?_)
                refine j_iconst C0 (v := 1) dL_hours_281 (by decide) ?_
                refine j_goto C0 286 dL_hours_282 (by decide) ?_
                refine j_istore C0 (L' := [(0, .ref (ad 0)), (1, .ref (ac)), (2, .ref (ap)), (3, .int (nf (fun s w => w + G1 14 s) (nf (fun j w => w - G 14 j) (0 : Int32) (N 0)) ss)), (4, .int (nf (fun s w => w + G1 15 s) (nf (fun j w => w - G 15 j) (0 : Int32) (N 0)) ss)), (5, .int (nI bg)), (6, .int ((1 : Int32))), (7, .int (nI (zC (zGn (G 12) (G1 12)) (ss + 1)))), (8, .int (nI ss)), (9, .int ((0 : Int32))), (10, .int (G1 10 ss))]) dL_hours_286 (by decide) rfl ?_
                refine j_aload_n C0 dL_hours_288 rfl ?_
                refine j_bipush C0 (v := 50) dL_hours_289 (by decide) ?_
                refine j_iload C0 dL_hours_291 rfl ?_
                refine j_iadd C0 dL_hours_293 ?_
                refine j_top (nI (50 + ss)) (nI_add 50 ss) ?_
                refine j_iload C0 dL_hours_294 rfl ?_
                refine j_if_eq C0 309 dL_hours_296 (by decide) (fun _ => ?_) (fun z9 => absurd (by decide) z9)
                refine j_iconst C0 (v := 0) dL_hours_309 (by decide) ?_
                refine j_top (zo12 (G1 12 ss)) (by rw [zo12, if_pos hno]) ?_
                refine l_stpN C0 (i := 50 + ss) (by omega) dL_hours_310 ?_
                refine j_aload_n C0 dL_hours_311 rfl ?_
                refine j_bipush C0 (v := 40) dL_hours_312 (by decide) ?_
                refine j_iload C0 dL_hours_314 rfl ?_
                refine j_iadd C0 dL_hours_316 ?_
                refine j_top (nI (40 + ss)) (nI_add 40 ss) ?_
                refine j_iload C0 dL_hours_317 rfl ?_
                refine l_stpN C0 (i := 40 + ss) (by omega) dL_hours_319 ?_
                refine j_iload_n C0 dL_hours_320 rfl ?_
                refine j_aload_n C0 dL_hours_321 rfl ?_
                refine j_iload C0 dL_hours_322 rfl ?_
                refine j_callVv C0 (lv_kx (z := z) (ac := ac) (ap := ap) (cf := cf2) (pf := (upd (upd (zpj (G1 10) (G1 12) pf ss) (50 + ss) (zo12 (G1 12 ss))) (40 + ss) (G1 10 ss))) (zv_lost (F := F1) (G := G1) (N := N1) (Q := Q1) (k := ss) (by omega) (by omega)).1 (zv_lost (F := F1) (G := G1) (N := N1) (Q := Q1) (k := ss) (by omega) (by omega)).2 (k_X6_lost hsl (A := AC z ac ap) (E := EC (AC z ac ap) tE mi) (fun U h => h) ad F1 G1 N1 Q1 (nI ss) )) mv_X6_lost wm_L_91 (lv_recv C0) rfl rfl ⟨Nat.le_of_ble_eq_true rfl, Nat.le_of_ble_eq_true rfl⟩ (Nat.le_of_ble_eq_true rfl) ⟨by show _ ≤ (480 : Nat); omega, by show _ ≤ (4060 : Nat); omega⟩ dL_hours_324 ?_
                refine j_iadd C0 dL_hours_327 ?_
                refine j_istore_n C0 (L' := [(0, .ref (ad 0)), (1, .ref (ac)), (2, .ref (ap)), (3, .int ((nf (fun s w => w + G1 14 s) (nf (fun j w => w - G 14 j) (0 : Int32) (N 0)) ss + G1 14 ss))), (4, .int (nf (fun s w => w + G1 15 s) (nf (fun j w => w - G 15 j) (0 : Int32) (N 0)) ss)), (5, .int (nI bg)), (6, .int ((1 : Int32))), (7, .int (nI (zC (zGn (G 12) (G1 12)) (ss + 1)))), (8, .int (nI ss)), (9, .int ((0 : Int32))), (10, .int (G1 10 ss))]) dL_hours_328 (by decide) rfl ?_
                refine j_iload C0 dL_hours_329 rfl ?_
                refine j_aload_n C0 dL_hours_331 rfl ?_
                refine j_iload C0 dL_hours_332 rfl ?_
                refine j_callVv C0 (lv_kx (z := z) (ac := ac) (ap := ap) (cf := cf2) (pf := (upd (upd (zpj (G1 10) (G1 12) pf ss) (50 + ss) (zo12 (G1 12 ss))) (40 + ss) (G1 10 ss))) (zv_claims (F := F1) (G := G1) (N := N1) (Q := Q1) (k := ss) (by omega) (by omega)).1 (zv_claims (F := F1) (G := G1) (N := N1) (Q := Q1) (k := ss) (by omega) (by omega)).2 (k_X6_claims hsl (A := AC z ac ap) (E := EC (AC z ac ap) tE mi) (fun U h => h) ad F1 G1 N1 Q1 (nI ss) )) mv_X6_claims wm_L_61 (lv_recv C0) rfl rfl ⟨Nat.le_of_ble_eq_true rfl, Nat.le_of_ble_eq_true rfl⟩ (Nat.le_of_ble_eq_true rfl) ⟨by show _ ≤ (480 : Nat); omega, by show _ ≤ (4060 : Nat); omega⟩ dL_hours_334 ?_
                refine j_iadd C0 dL_hours_337 ?_
                refine j_istore C0 (L' := [(0, .ref (ad 0)), (1, .ref (ac)), (2, .ref (ap)), (3, .int ((nf (fun s w => w + G1 14 s) (nf (fun j w => w - G 14 j) (0 : Int32) (N 0)) ss + G1 14 ss))), (4, .int ((nf (fun s w => w + G1 15 s) (nf (fun j w => w - G 15 j) (0 : Int32) (N 0)) ss + G1 15 ss))), (5, .int (nI bg)), (6, .int ((1 : Int32))), (7, .int (nI (zC (zGn (G 12) (G1 12)) (ss + 1)))), (8, .int (nI ss)), (9, .int ((0 : Int32))), (10, .int (G1 10 ss))]) dL_hours_338 (by decide) rfl ?_
                refine j_iinc C0 (v := nI (ss + 1)) (L' := [(0, .ref (ad 0)), (1, .ref (ac)), (2, .ref (ap)), (3, .int ((nf (fun s w => w + G1 14 s) (nf (fun j w => w - G 14 j) (0 : Int32) (N 0)) ss + G1 14 ss))), (4, .int ((nf (fun s w => w + G1 15 s) (nf (fun j w => w - G 15 j) (0 : Int32) (N 0)) ss + G1 15 ss))), (5, .int (nI bg)), (6, .int ((1 : Int32))), (7, .int (nI (zC (zGn (G 12) (G1 12)) (ss + 1)))), (8, .int (nI (ss + 1))), (9, .int ((0 : Int32))), (10, .int (G1 10 ss))]) dL_hours_340 rfl (nI_inc ss) (by decide) rfl ?_
                refine j_goto C0 157 dL_hours_343 (by decide) ?_
                refine j_widen (k := 352 + 8 * (ss + 1)) (n := 3288 + 48 * (ss + 1)) (by omega) (by omega) ?_
                refine j_locals (L' := [(0, .ref (ad 0)), (1, .ref (ac)), (2, .ref (ap)), (3, .int ((nf (fun s w => w + G1 14 s) (nf (fun j w => w - G 14 j) (0 : Int32) (N 0)) ss + G1 14 ss))), (4, .int ((nf (fun s w => w + G1 15 s) (nf (fun j w => w - G 15 j) (0 : Int32) (N 0)) ss + G1 15 ss))), (5, .int (nI bg)), (6, .int ((1 : Int32))), (7, .int (nI (zC (zGn (G 12) (G1 12)) (ss + 1)))), (8, .int (nI (ss + 1)))]) (fun q hq => by simp only [List.mem_cons, List.mem_nil_iff, or_false] at hq ⊢; rcases hq with rfl | rfl | rfl | rfl | rfl | rfl | rfl | rfl | rfl <;> simp) (lok_of rfl rfl) ?_
                exact K157
          ·
            have hno : ¬ G1 12 ss = -1 := fun z9 => q1 (hqv.2.1 z9)
            obtain ⟨hsame, x, hx, hxb, hx3⟩ := ho.resolve_left hno
            have hx50 : pf (50 + ss) = nI x ∧ 1 ≤ x := by
              rw [mI9.2.2.2.2.2]
              rcases od with ⟨a9, _⟩ | ⟨_, y, y1, y2, y3, y4⟩
              · exact absurd (hsame.trans a9) hno
              · have exy : x = y := (nI_eq (by omega) (by omega)).mp (hx.symm.trans (hsame.trans y3))
                rw [y4, exy]
                exact ⟨rfl, y1⟩
            obtain ⟨hx50, hx1⟩ := hx50
            refine j_iconst C0 (v := 1) dL_hours_180 (by decide) ?_
            refine j_goto C0 185 dL_hours_181 (by decide) ?_
            refine j_istore C0 (L' := [(0, .ref (ad 0)), (1, .ref (ac)), (2, .ref (ap)), (3, .int (nf (fun s w => w + G1 14 s) (nf (fun j w => w - G 14 j) (0 : Int32) (N 0)) ss)), (4, .int (nf (fun s w => w + G1 15 s) (nf (fun j w => w - G 15 j) (0 : Int32) (N 0)) ss)), (5, .int (nI bg)), (6, .int ((1 : Int32))), (7, .int (nI (zC (zGn (G 12) (G1 12)) ss))), (8, .int (nI ss)), (9, .int ((1 : Int32)))]) dL_hours_185 (by decide) rfl ?_
            refine j_aload_n C0 dL_hours_187 rfl ?_
            refine j_iload C0 dL_hours_188 rfl ?_
            refine j_callVv C0 (lv_kx (z := z) (ac := ac) (ap := ap) (cf := cf2) (pf := (zpj (G1 10) (G1 12) pf ss)) (zv_state (F := F1) (G := G1) (N := N1) (Q := Q1) (k := ss) (by omega) (by omega)).1 (zv_state (F := F1) (G := G1) (N := N1) (Q := Q1) (k := ss) (by omega) (by omega)).2 (k_X6_state hsl (A := AC z ac ap) (E := EC (AC z ac ap) tE mi) (fun U h => h) ad F1 G1 N1 Q1 (nI ss) )) mv_X6_state wm_L_80 (lv_recv C0) rfl rfl ⟨Nat.le_of_ble_eq_true rfl, Nat.le_of_ble_eq_true rfl⟩ (Nat.le_of_ble_eq_true rfl) ⟨by show _ ≤ (480 : Nat); omega, by show _ ≤ (4060 : Nat); omega⟩ dL_hours_190 ?_
            refine j_istore C0 (L' := [(0, .ref (ad 0)), (1, .ref (ac)), (2, .ref (ap)), (3, .int (nf (fun s w => w + G1 14 s) (nf (fun j w => w - G 14 j) (0 : Int32) (N 0)) ss)), (4, .int (nf (fun s w => w + G1 15 s) (nf (fun j w => w - G 15 j) (0 : Int32) (N 0)) ss)), (5, .int (nI bg)), (6, .int ((1 : Int32))), (7, .int (nI (zC (zGn (G 12) (G1 12)) ss))), (8, .int (nI ss)), (9, .int ((1 : Int32))), (10, .int (G1 10 ss))]) dL_hours_193 (by decide) rfl ?_
            refine j_iload C0 dL_hours_195 rfl ?_
            refine j_aload_n C0 dL_hours_197 rfl ?_
            refine j_bipush C0 (v := 50) dL_hours_198 (by decide) ?_
            refine j_iload C0 dL_hours_200 rfl ?_
            refine j_iadd C0 dL_hours_202 ?_
            refine j_top (nI (50 + ss)) (nI_add 50 ss) ?_
            refine l_ldpN C0 (i := 50 + ss) (by omega) dL_hours_203 (v := pf (50 + ss)) zh.1 ?_
            refine j_if_le C0 216 dL_hours_204 (by decide) (fun (q5 : pf (50 + ss) ≤ 0) => ?_) (fun (q5 : ¬ (pf (50 + ss) ≤ 0)) => ?_)
            ·
              exact absurd q5 (by rw [hx50]; exact nI_nle (by omega) (by omega))
            ·
              have hg : ¬ G 12 ss = -1 := fun z9 => q5 (by rw [mI9.2.2.2.2.2, zo12, if_pos z9]; decide)
              refine j_iload C0 dL_hours_207 rfl ?_
              refine j_if_ne C0 216 dL_hours_209 (by decide) (fun _ => ?_) (fun z9 => absurd z9 (by decide))
              refine j_iconst C0 (v := 0) dL_hours_216 (by decide) ?_
              refine j_iadd C0 dL_hours_217 ?_
              refine j_top (nI (zC (zGn (G 12) (G1 12)) (ss + 1))) (zC_fI (zGn_f (Or.inr hno))) ?_
              refine j_istore C0 (L' := [(0, .ref (ad 0)), (1, .ref (ac)), (2, .ref (ap)), (3, .int (nf (fun s w => w + G1 14 s) (nf (fun j w => w - G 14 j) (0 : Int32) (N 0)) ss)), (4, .int (nf (fun s w => w + G1 15 s) (nf (fun j w => w - G 15 j) (0 : Int32) (N 0)) ss)), (5, .int (nI bg)), (6, .int ((1 : Int32))), (7, .int (nI (zC (zGn (G 12) (G1 12)) (ss + 1)))), (8, .int (nI ss)), (9, .int ((1 : Int32))), (10, .int (G1 10 ss))]) dL_hours_218 (by decide) rfl ?_
              refine j_aload_n C0 dL_hours_220 rfl ?_
              refine j_bipush C0 (v := 50) dL_hours_221 (by decide) ?_
              refine j_iload C0 dL_hours_223 rfl ?_
              refine j_iadd C0 dL_hours_225 ?_
              refine j_top (nI (50 + ss)) (nI_add 50 ss) ?_
              refine l_ldpN C0 (i := 50 + ss) (by omega) dL_hours_226 (v := pf (50 + ss)) zh.1 ?_
              refine j_if_gt C0 235 dL_hours_227 (by decide) (fun _ => ?_) (fun z9 => absurd (Int32.not_le.mp q5) z9)
              refine j_iload C0 dL_hours_235 rfl ?_
              refine j_if_eq C0 255 dL_hours_237 (by decide) (fun z9 => absurd z9 (by decide)) (fun _ => ?_)
              refine j_aload_n C0 dL_hours_240 rfl ?_
              refine j_bipush C0 (v := 50) dL_hours_241 (by decide) ?_
              refine j_iload C0 dL_hours_243 rfl ?_
              refine j_iadd C0 dL_hours_245 ?_
              refine j_top (nI (50 + ss)) (nI_add 50 ss) ?_
              refine l_ldpN C0 (i := 50 + ss) (by omega) dL_hours_246 (v := pf (50 + ss)) zh.1 ?_
              refine j_aload_n C0 dL_hours_247 rfl ?_
              refine j_iconst C0 (v := 0) dL_hours_248 (by decide) ?_
              refine l_ldcN C0 (i := 0) (by omega) dL_hours_249 (v := nI (t + 1)) c20 ?_
              refine j_iconst C0 (v := 3) dL_hours_250 (by decide) ?_
              refine j_isub C0 dL_hours_251 ?_
              refine j_icmp_le C0 285 dL_hours_252 (by decide) (fun z9 => absurd z9 (fun z9 => by rw [hx50] at z9; have := (z_cle (T := t + 1) (h := x) (c := 3) (by omega) (by omega) (by omega)).mp z9; omega)) (fun _ => ?_)
              refine j_iload C0 dL_hours_255 rfl ?_
              refine j_aload_n C0 dL_hours_257 rfl ?_
              refine j_bipush C0 (v := 40) dL_hours_258 (by decide) ?_
              refine j_iload C0 dL_hours_260 rfl ?_
              refine j_iadd C0 dL_hours_262 ?_
              refine j_top (nI (40 + ss)) (nI_add 40 ss) ?_
              refine l_ldpN C0 (i := 40 + ss) (by omega) dL_hours_263 (v := G 10 ss) (zh.2.trans mI9.2.2.2.2.1) ?_
              refine j_icmp_eq C0 281 dL_hours_264 (by decide) (fun (q6 : G1 10 ss = G 10 ss) => ?_) (fun (q6 : ¬ (G1 10 ss = G 10 ss)) => ?_)
              ·
                refine j_iconst C0 (v := 1) dL_hours_281 (by decide) ?_
                refine j_goto C0 286 dL_hours_282 (by decide) ?_
                refine j_istore C0 (L' := [(0, .ref (ad 0)), (1, .ref (ac)), (2, .ref (ap)), (3, .int (nf (fun s w => w + G1 14 s) (nf (fun j w => w - G 14 j) (0 : Int32) (N 0)) ss)), (4, .int (nf (fun s w => w + G1 15 s) (nf (fun j w => w - G 15 j) (0 : Int32) (N 0)) ss)), (5, .int (nI bg)), (6, .int ((1 : Int32))), (7, .int (nI (zC (zGn (G 12) (G1 12)) (ss + 1)))), (8, .int (nI ss)), (9, .int ((1 : Int32))), (10, .int (G1 10 ss))]) dL_hours_286 (by decide) rfl ?_
                refine j_aload_n C0 dL_hours_288 rfl ?_
                refine j_bipush C0 (v := 50) dL_hours_289 (by decide) ?_
                refine j_iload C0 dL_hours_291 rfl ?_
                refine j_iadd C0 dL_hours_293 ?_
                refine j_top (nI (50 + ss)) (nI_add 50 ss) ?_
                refine j_iload C0 dL_hours_294 rfl ?_
                refine j_if_eq C0 309 dL_hours_296 (by decide) (fun z9 => absurd z9 (by decide)) (fun _ => ?_)
                refine j_aload_n C0 dL_hours_299 rfl ?_
                refine j_bipush C0 (v := 50) dL_hours_300 (by decide) ?_
                refine j_iload C0 dL_hours_302 rfl ?_
                refine j_iadd C0 dL_hours_304 ?_
                refine j_top (nI (50 + ss)) (nI_add 50 ss) ?_
                refine l_ldpN C0 (i := 50 + ss) (by omega) dL_hours_305 (v := pf (50 + ss)) zh.1 ?_
                refine j_top (zo12 (G1 12 ss)) (by rw [zo12, if_neg hno, hx50, hx]) ?_
                refine j_goto C0 310 dL_hours_306 (by decide) ?_
                refine l_stpN C0 (i := 50 + ss) (by omega) dL_hours_310 ?_
                refine j_aload_n C0 dL_hours_311 rfl ?_
                refine j_bipush C0 (v := 40) dL_hours_312 (by decide) ?_
                refine j_iload C0 dL_hours_314 rfl ?_
                refine j_iadd C0 dL_hours_316 ?_
                refine j_top (nI (40 + ss)) (nI_add 40 ss) ?_
                refine j_iload C0 dL_hours_317 rfl ?_
                refine l_stpN C0 (i := 40 + ss) (by omega) dL_hours_319 ?_
                refine j_iload_n C0 dL_hours_320 rfl ?_
                refine j_aload_n C0 dL_hours_321 rfl ?_
                refine j_iload C0 dL_hours_322 rfl ?_
                refine j_callVv C0 (lv_kx (z := z) (ac := ac) (ap := ap) (cf := cf2) (pf := (upd (upd (zpj (G1 10) (G1 12) pf ss) (50 + ss) (zo12 (G1 12 ss))) (40 + ss) (G1 10 ss))) (zv_lost (F := F1) (G := G1) (N := N1) (Q := Q1) (k := ss) (by omega) (by omega)).1 (zv_lost (F := F1) (G := G1) (N := N1) (Q := Q1) (k := ss) (by omega) (by omega)).2 (k_X6_lost hsl (A := AC z ac ap) (E := EC (AC z ac ap) tE mi) (fun U h => h) ad F1 G1 N1 Q1 (nI ss) )) mv_X6_lost wm_L_91 (lv_recv C0) rfl rfl ⟨Nat.le_of_ble_eq_true rfl, Nat.le_of_ble_eq_true rfl⟩ (Nat.le_of_ble_eq_true rfl) ⟨by show _ ≤ (480 : Nat); omega, by show _ ≤ (4060 : Nat); omega⟩ dL_hours_324 ?_
                refine j_iadd C0 dL_hours_327 ?_
                refine j_istore_n C0 (L' := [(0, .ref (ad 0)), (1, .ref (ac)), (2, .ref (ap)), (3, .int ((nf (fun s w => w + G1 14 s) (nf (fun j w => w - G 14 j) (0 : Int32) (N 0)) ss + G1 14 ss))), (4, .int (nf (fun s w => w + G1 15 s) (nf (fun j w => w - G 15 j) (0 : Int32) (N 0)) ss)), (5, .int (nI bg)), (6, .int ((1 : Int32))), (7, .int (nI (zC (zGn (G 12) (G1 12)) (ss + 1)))), (8, .int (nI ss)), (9, .int ((1 : Int32))), (10, .int (G1 10 ss))]) dL_hours_328 (by decide) rfl ?_
                refine j_iload C0 dL_hours_329 rfl ?_
                refine j_aload_n C0 dL_hours_331 rfl ?_
                refine j_iload C0 dL_hours_332 rfl ?_
                refine j_callVv C0 (lv_kx (z := z) (ac := ac) (ap := ap) (cf := cf2) (pf := (upd (upd (zpj (G1 10) (G1 12) pf ss) (50 + ss) (zo12 (G1 12 ss))) (40 + ss) (G1 10 ss))) (zv_claims (F := F1) (G := G1) (N := N1) (Q := Q1) (k := ss) (by omega) (by omega)).1 (zv_claims (F := F1) (G := G1) (N := N1) (Q := Q1) (k := ss) (by omega) (by omega)).2 (k_X6_claims hsl (A := AC z ac ap) (E := EC (AC z ac ap) tE mi) (fun U h => h) ad F1 G1 N1 Q1 (nI ss) )) mv_X6_claims wm_L_61 (lv_recv C0) rfl rfl ⟨Nat.le_of_ble_eq_true rfl, Nat.le_of_ble_eq_true rfl⟩ (Nat.le_of_ble_eq_true rfl) ⟨by show _ ≤ (480 : Nat); omega, by show _ ≤ (4060 : Nat); omega⟩ dL_hours_334 ?_
                refine j_iadd C0 dL_hours_337 ?_
                refine j_istore C0 (L' := [(0, .ref (ad 0)), (1, .ref (ac)), (2, .ref (ap)), (3, .int ((nf (fun s w => w + G1 14 s) (nf (fun j w => w - G 14 j) (0 : Int32) (N 0)) ss + G1 14 ss))), (4, .int ((nf (fun s w => w + G1 15 s) (nf (fun j w => w - G 15 j) (0 : Int32) (N 0)) ss + G1 15 ss))), (5, .int (nI bg)), (6, .int ((1 : Int32))), (7, .int (nI (zC (zGn (G 12) (G1 12)) (ss + 1)))), (8, .int (nI ss)), (9, .int ((1 : Int32))), (10, .int (G1 10 ss))]) dL_hours_338 (by decide) rfl ?_
                refine j_iinc C0 (v := nI (ss + 1)) (L' := [(0, .ref (ad 0)), (1, .ref (ac)), (2, .ref (ap)), (3, .int ((nf (fun s w => w + G1 14 s) (nf (fun j w => w - G 14 j) (0 : Int32) (N 0)) ss + G1 14 ss))), (4, .int ((nf (fun s w => w + G1 15 s) (nf (fun j w => w - G 15 j) (0 : Int32) (N 0)) ss + G1 15 ss))), (5, .int (nI bg)), (6, .int ((1 : Int32))), (7, .int (nI (zC (zGn (G 12) (G1 12)) (ss + 1)))), (8, .int (nI (ss + 1))), (9, .int ((1 : Int32))), (10, .int (G1 10 ss))]) dL_hours_340 rfl (nI_inc ss) (by decide) rfl ?_
                refine j_goto C0 157 dL_hours_343 (by decide) ?_
                refine j_widen (k := 352 + 8 * (ss + 1)) (n := 3288 + 48 * (ss + 1)) (by omega) (by omega) ?_
                refine j_locals (L' := [(0, .ref (ad 0)), (1, .ref (ac)), (2, .ref (ap)), (3, .int ((nf (fun s w => w + G1 14 s) (nf (fun j w => w - G 14 j) (0 : Int32) (N 0)) ss + G1 14 ss))), (4, .int ((nf (fun s w => w + G1 15 s) (nf (fun j w => w - G 15 j) (0 : Int32) (N 0)) ss + G1 15 ss))), (5, .int (nI bg)), (6, .int ((1 : Int32))), (7, .int (nI (zC (zGn (G 12) (G1 12)) (ss + 1)))), (8, .int (nI (ss + 1)))]) (fun q hq => by simp only [List.mem_cons, List.mem_nil_iff, or_false] at hq ⊢; rcases hq with rfl | rfl | rfl | rfl | rfl | rfl | rfl | rfl | rfl <;> simp) (lok_of rfl rfl) ?_
                exact K157
              ·
                refine j_iload C0 dL_hours_267 rfl ?_
                refine j_aload_n C0 dL_hours_269 rfl ?_
                refine j_bipush C0 (v := 40) dL_hours_270 (by decide) ?_
                refine j_iload C0 dL_hours_272 rfl ?_
                refine j_iadd C0 dL_hours_274 ?_
                refine j_top (nI (40 + ss)) (nI_add 40 ss) ?_
                refine l_ldpN C0 (i := 40 + ss) (by omega) dL_hours_275 (v := G 10 ss) (zh.2.trans mI9.2.2.2.2.1) ?_
                refine j_iconst C0 (v := 1) dL_hours_276 (by decide) ?_
                refine j_iadd C0 dL_hours_277 ?_
                refine j_icmp_ne C0 285 dL_hours_278 (by decide) (fun z9 => absurd (hst.resolve_left q6) z9) (fun _ => ?_)
                refine j_iconst C0 (v := 1) dL_hours_281 (by decide) ?_
                refine j_goto C0 286 dL_hours_282 (by decide) ?_
                refine j_istore C0 (L' := [(0, .ref (ad 0)), (1, .ref (ac)), (2, .ref (ap)), (3, .int (nf (fun s w => w + G1 14 s) (nf (fun j w => w - G 14 j) (0 : Int32) (N 0)) ss)), (4, .int (nf (fun s w => w + G1 15 s) (nf (fun j w => w - G 15 j) (0 : Int32) (N 0)) ss)), (5, .int (nI bg)), (6, .int ((1 : Int32))), (7, .int (nI (zC (zGn (G 12) (G1 12)) (ss + 1)))), (8, .int (nI ss)), (9, .int ((1 : Int32))), (10, .int (G1 10 ss))]) dL_hours_286 (by decide) rfl ?_
                refine j_aload_n C0 dL_hours_288 rfl ?_
                refine j_bipush C0 (v := 50) dL_hours_289 (by decide) ?_
                refine j_iload C0 dL_hours_291 rfl ?_
                refine j_iadd C0 dL_hours_293 ?_
                refine j_top (nI (50 + ss)) (nI_add 50 ss) ?_
                refine j_iload C0 dL_hours_294 rfl ?_
                refine j_if_eq C0 309 dL_hours_296 (by decide) (fun z9 => absurd z9 (by decide)) (fun _ => ?_)
                refine j_aload_n C0 dL_hours_299 rfl ?_
                refine j_bipush C0 (v := 50) dL_hours_300 (by decide) ?_
                refine j_iload C0 dL_hours_302 rfl ?_
                refine j_iadd C0 dL_hours_304 ?_
                refine j_top (nI (50 + ss)) (nI_add 50 ss) ?_
                refine l_ldpN C0 (i := 50 + ss) (by omega) dL_hours_305 (v := pf (50 + ss)) zh.1 ?_
                refine j_top (zo12 (G1 12 ss)) (by rw [zo12, if_neg hno, hx50, hx]) ?_
                refine j_goto C0 310 dL_hours_306 (by decide) ?_
                refine l_stpN C0 (i := 50 + ss) (by omega) dL_hours_310 ?_
                refine j_aload_n C0 dL_hours_311 rfl ?_
                refine j_bipush C0 (v := 40) dL_hours_312 (by decide) ?_
                refine j_iload C0 dL_hours_314 rfl ?_
                refine j_iadd C0 dL_hours_316 ?_
                refine j_top (nI (40 + ss)) (nI_add 40 ss) ?_
                refine j_iload C0 dL_hours_317 rfl ?_
                refine l_stpN C0 (i := 40 + ss) (by omega) dL_hours_319 ?_
                refine j_iload_n C0 dL_hours_320 rfl ?_
                refine j_aload_n C0 dL_hours_321 rfl ?_
                refine j_iload C0 dL_hours_322 rfl ?_
                refine j_callVv C0 (lv_kx (z := z) (ac := ac) (ap := ap) (cf := cf2) (pf := (upd (upd (zpj (G1 10) (G1 12) pf ss) (50 + ss) (zo12 (G1 12 ss))) (40 + ss) (G1 10 ss))) (zv_lost (F := F1) (G := G1) (N := N1) (Q := Q1) (k := ss) (by omega) (by omega)).1 (zv_lost (F := F1) (G := G1) (N := N1) (Q := Q1) (k := ss) (by omega) (by omega)).2 (k_X6_lost hsl (A := AC z ac ap) (E := EC (AC z ac ap) tE mi) (fun U h => h) ad F1 G1 N1 Q1 (nI ss) )) mv_X6_lost wm_L_91 (lv_recv C0) rfl rfl ⟨Nat.le_of_ble_eq_true rfl, Nat.le_of_ble_eq_true rfl⟩ (Nat.le_of_ble_eq_true rfl) ⟨by show _ ≤ (480 : Nat); omega, by show _ ≤ (4060 : Nat); omega⟩ dL_hours_324 ?_
                refine j_iadd C0 dL_hours_327 ?_
                refine j_istore_n C0 (L' := [(0, .ref (ad 0)), (1, .ref (ac)), (2, .ref (ap)), (3, .int ((nf (fun s w => w + G1 14 s) (nf (fun j w => w - G 14 j) (0 : Int32) (N 0)) ss + G1 14 ss))), (4, .int (nf (fun s w => w + G1 15 s) (nf (fun j w => w - G 15 j) (0 : Int32) (N 0)) ss)), (5, .int (nI bg)), (6, .int ((1 : Int32))), (7, .int (nI (zC (zGn (G 12) (G1 12)) (ss + 1)))), (8, .int (nI ss)), (9, .int ((1 : Int32))), (10, .int (G1 10 ss))]) dL_hours_328 (by decide) rfl ?_
                refine j_iload C0 dL_hours_329 rfl ?_
                refine j_aload_n C0 dL_hours_331 rfl ?_
                refine j_iload C0 dL_hours_332 rfl ?_
                refine j_callVv C0 (lv_kx (z := z) (ac := ac) (ap := ap) (cf := cf2) (pf := (upd (upd (zpj (G1 10) (G1 12) pf ss) (50 + ss) (zo12 (G1 12 ss))) (40 + ss) (G1 10 ss))) (zv_claims (F := F1) (G := G1) (N := N1) (Q := Q1) (k := ss) (by omega) (by omega)).1 (zv_claims (F := F1) (G := G1) (N := N1) (Q := Q1) (k := ss) (by omega) (by omega)).2 (k_X6_claims hsl (A := AC z ac ap) (E := EC (AC z ac ap) tE mi) (fun U h => h) ad F1 G1 N1 Q1 (nI ss) )) mv_X6_claims wm_L_61 (lv_recv C0) rfl rfl ⟨Nat.le_of_ble_eq_true rfl, Nat.le_of_ble_eq_true rfl⟩ (Nat.le_of_ble_eq_true rfl) ⟨by show _ ≤ (480 : Nat); omega, by show _ ≤ (4060 : Nat); omega⟩ dL_hours_334 ?_
                refine j_iadd C0 dL_hours_337 ?_
                refine j_istore C0 (L' := [(0, .ref (ad 0)), (1, .ref (ac)), (2, .ref (ap)), (3, .int ((nf (fun s w => w + G1 14 s) (nf (fun j w => w - G 14 j) (0 : Int32) (N 0)) ss + G1 14 ss))), (4, .int ((nf (fun s w => w + G1 15 s) (nf (fun j w => w - G 15 j) (0 : Int32) (N 0)) ss + G1 15 ss))), (5, .int (nI bg)), (6, .int ((1 : Int32))), (7, .int (nI (zC (zGn (G 12) (G1 12)) (ss + 1)))), (8, .int (nI ss)), (9, .int ((1 : Int32))), (10, .int (G1 10 ss))]) dL_hours_338 (by decide) rfl ?_
                refine j_iinc C0 (v := nI (ss + 1)) (L' := [(0, .ref (ad 0)), (1, .ref (ac)), (2, .ref (ap)), (3, .int ((nf (fun s w => w + G1 14 s) (nf (fun j w => w - G 14 j) (0 : Int32) (N 0)) ss + G1 14 ss))), (4, .int ((nf (fun s w => w + G1 15 s) (nf (fun j w => w - G 15 j) (0 : Int32) (N 0)) ss + G1 15 ss))), (5, .int (nI bg)), (6, .int ((1 : Int32))), (7, .int (nI (zC (zGn (G 12) (G1 12)) (ss + 1)))), (8, .int (nI (ss + 1))), (9, .int ((1 : Int32))), (10, .int (G1 10 ss))]) dL_hours_340 rfl (nI_inc ss) (by decide) rfl ?_
                refine j_goto C0 157 dL_hours_343 (by decide) ?_
                refine j_widen (k := 352 + 8 * (ss + 1)) (n := 3288 + 48 * (ss + 1)) (by omega) (by omega) ?_
                refine j_locals (L' := [(0, .ref (ad 0)), (1, .ref (ac)), (2, .ref (ap)), (3, .int ((nf (fun s w => w + G1 14 s) (nf (fun j w => w - G 14 j) (0 : Int32) (N 0)) ss + G1 14 ss))), (4, .int ((nf (fun s w => w + G1 15 s) (nf (fun j w => w - G 15 j) (0 : Int32) (N 0)) ss + G1 15 ss))), (5, .int (nI bg)), (6, .int ((1 : Int32))), (7, .int (nI (zC (zGn (G 12) (G1 12)) (ss + 1)))), (8, .int (nI (ss + 1)))]) (fun q hq => by simp only [List.mem_cons, List.mem_nil_iff, or_false] at hq ⊢; rcases hq with rfl | rfl | rfl | rfl | rfl | rfl | rfl | rfl | rfl <;> simp) (lok_of rfl rfl) ?_
                exact K157
        ·
          show J p l e _ s m args below meth c (fun q => z ≤ q) 11 _ (LV D Y z tE ac ap ad F1 G1 N1 Q1 cf2 (zpj (G1 10) (G1 12) pf (N 0))) (352 + 8 * (N 0)) (3288 + 48 * (N 0)) 157 [(0, .ref (ad 0)), (1, .ref (ac)), (2, .ref (ap)), (3, .int (nf (fun s w => w + G1 14 s) (nf (fun j w => w - G 14 j) (0 : Int32) (N 0)) (N 0))), (4, .int (nf (fun s w => w + G1 15 s) (nf (fun j w => w - G 15 j) (0 : Int32) (N 0)) (N 0))), (5, .int (nI bg)), (6, .int ((1 : Int32))), (7, .int (nI (zC (zGn (G 12) (G1 12)) (N 0)))), (8, .int (nI (N 0)))] []
          obtain ⟨dl, dc, hd1, hd2⟩ := h95
          have hsl1 := zIs_dif (n := N 0) (fun s => (hd1 s).1)
          have hsc1 := zIs_dif (n := N 0) (fun s => (hd1 s).2)
          have hle : zC (zGn (G 12) (G1 12)) (N 0) ≤ N 0 := zC_le
          have hd3 : zC (zGn (G 12) (G1 12)) (N 0) = bg + zSu dl (N 0) + zSu dc (N 0) := hd2.trans (by rw [hbe1])
          refine j_iload C0 dL_hours_157 rfl ?_
          refine j_aload_n C0 dL_hours_159 rfl ?_
          refine j_iconst C0 (v := 1) dL_hours_160 (by decide) ?_
          refine l_ldcN C0 (i := 1) (by omega) dL_hours_161 (v := nI (N 0)) c21 ?_
          refine j_icmp_ge C0 346 dL_hours_162 (by decide) (fun _ => ?_) (fun z9 => absurd (nI_le (Nat.le_refl _) (by omega)) z9)
          refine j_aload_n C0 dL_hours_346 rfl ?_
          refine j_iconst C0 (v := 3) dL_hours_347 (by decide) ?_
          refine j_dup2 C0 dL_hours_348 rfl rfl ?_
          refine l_ldcN C0 (i := 3) (by omega) dL_hours_349 (v := nI (N 2)) c23 ?_
          refine j_iload C0 dL_hours_350 rfl ?_
          refine j_isub C0 dL_hours_352 ?_
          refine j_top (nI (N1 2)) (z_n2s hL.1 hE1 hJ1 h94) ?_
          refine l_stcN C0 (i := 3) (by omega) dL_hours_353 ?_
          generalize ec3 : upd cf2 3 (nI (N1 2)) = cf3
          have c3n : ∀ i, ¬ i = 3 → cf3 i = cf2 i := fun i hi => by rw [← ec3, up_n hi]
          have hz := z_hrs hL hE1 hJ1 h9 (c3 := cf3) ((c3n 0 (by decide)).trans c20) ((c3n 1 (by decide)).trans (c21.trans hL.2.2.2.1.symm)) ((c3n 2 (by decide)).trans c22) (by rw [← ec3, up_s]) (fun k hk => (c3n _ (by omega)).trans ((c2n _ (by omega)).trans (c1n _ (by omega))))
          refine j_iload C0 dL_hours_354 rfl ?_
          refine j_if_eq C0 399 dL_hours_356 (by decide) (fun z9 => absurd z9 (by decide)) (fun _ => ?_)
          refine j_iload C0 dL_hours_359 rfl ?_
          refine j_iload C0 dL_hours_361 rfl ?_
          refine j_iload_n C0 dL_hours_363 rfl ?_
          refine j_top (nI ((zSu dl (N 0)))) hsl1 ?_
          refine j_iadd C0 dL_hours_364 ?_
          refine j_top (nI (bg + ((zSu dl (N 0))))) (nI_add bg ((zSu dl (N 0)))) ?_
          refine j_iload C0 dL_hours_365 rfl ?_
          refine j_top (nI ((zSu dc (N 0)))) hsc1 ?_
          refine j_iadd C0 dL_hours_367 ?_
          refine j_top (nI ((bg + ((zSu dl (N 0)))) + ((zSu dc (N 0))))) (nI_add (bg + ((zSu dl (N 0)))) ((zSu dc (N 0)))) ?_
          refine j_icmp_ne C0 399 dL_hours_368 (by decide) (fun z9 => absurd (congrArg nI hd3) z9) (fun _ => ?_)
          refine j_iload_n C0 dL_hours_371 rfl ?_
          refine j_top (nI (zSu dl (N 0))) hsl1 ?_
          refine j_if_lt C0 399 dL_hours_372 (by decide) (fun z9 => absurd z9 (nI_pos (by omega))) (fun _ => ?_)
          refine j_iload C0 dL_hours_375 rfl ?_
          refine j_top (nI (zSu dc (N 0))) hsc1 ?_
          refine j_if_lt C0 399 dL_hours_377 (by decide) (fun z9 => absurd z9 (nI_pos (by omega))) (fun _ => ?_)
          refine j_aload_n C0 dL_hours_380 rfl ?_
          refine j_aload_n C0 dL_hours_381 rfl ?_
          refine j_callSv C0 (k_L_isMoney hsl F1 G1 N1 Q1 cf3 (zpj (G1 10) (G1 12) pf (N 0)) hJ1.n0 (by omega) (hz.2.2.2.1) hz.2.1.2.1) ms_L_isMoney wm_L_101 rfl rfl ⟨Nat.le_of_ble_eq_true rfl, Nat.le_of_ble_eq_true rfl⟩ (Nat.le_of_ble_eq_true rfl) ⟨by show _ ≤ (480 : Nat); omega, by show _ ≤ (4060 : Nat); omega⟩ dL_hours_382 ?_
          refine j_if_eq C0 399 dL_hours_385 (by decide) (fun z9 => absurd z9 (by decide)) (fun _ => ?_)
          refine j_aload_n C0 dL_hours_388 rfl ?_
          refine j_callSv C0 (k_L_isRota hsl F1 G1 N1 Q1 cf3 (zpj (G1 10) (G1 12) pf (N 0)) hJ1.pm) ms_L_isRota wm_L_57 rfl rfl ⟨Nat.le_of_ble_eq_true rfl, Nat.le_of_ble_eq_true rfl⟩ (Nat.le_of_ble_eq_true rfl) ⟨by show _ ≤ (480 : Nat); omega, by show _ ≤ (4060 : Nat); omega⟩ dL_hours_389 ?_
          refine j_if_eq C0 399 dL_hours_392 (by decide) (fun z9 => absurd z9 (by decide)) (fun _ => ?_)
          refine j_iconst C0 (v := 1) dL_hours_395 (by decide) ?_
          refine j_goto C0 400 dL_hours_396 (by decide) ?_
          refine j_widen (k := 480) (n := 4060) (by omega) (by omega) ?_
          exact j_zretE C0 rfl rfl (by decide) dL_hours_400 (lg_of hz)
  ·
    refine j_aload_n C0 dL_hours_9 rfl ?_
    refine j_callVv C0 (lv_kx (z := z) (ac := ac) (ap := ap) (cf := cf) (pf := pf) rfl rfl (k_X6_moves hsl (A := AC z ac ap) (E := EC (AC z ac ap) tE mi) (fun U h => h) ad F G N Q  )) mv_X6_moves wm_L_29 (lv_recv C0) rfl rfl ⟨Nat.le_of_ble_eq_true rfl, Nat.le_of_ble_eq_true rfl⟩ (Nat.le_of_ble_eq_true rfl) ⟨by show _ ≤ (480 : Nat); omega, by show _ ≤ (4060 : Nat); omega⟩ dL_hours_10 ?_
    refine j_aload_n C0 dL_hours_13 rfl ?_
    refine j_iconst C0 (v := 2) dL_hours_14 (by decide) ?_
    refine l_ldcN C0 (i := 2) (by omega) dL_hours_15 (v := nI (N 1)) hL.2.2.2.2.1 ?_
    refine j_icmp_ne C0 23 dL_hours_16 (by decide) (fun z9 => absurd rfl z9) (fun _ => ?_)
    refine j_iconst C0 (v := 1) dL_hours_19 (by decide) ?_
    refine j_goto C0 24 dL_hours_20 (by decide) ?_
    refine j_widen (k := 480) (n := 4060) (by omega) (by omega) ?_
    exact j_zretE C0 rfl rfl (by decide) dL_hours_24 (lg_of hL)
end
