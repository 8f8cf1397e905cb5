section
set_option maxRecDepth 100000 in
set_option maxHeartbeats 4000000 in
theorem k_L_isMove {l : Launch} (hsl : l.stackTraces = false) {D : va_G} {Y : Nat → ClassId} {z tE mi ac ap : Nat} {ad : Nat → Nat} {T : Nat} (F : Nat → Int32) (G : Nat → Nat → Int32) (N : Nat → Nat) (Q : Nat → Nat → Nat) (cf pf : Nat → Int32) (mm sh pl oo hh : Nat) (hJ : zJ T F G N Q) (h10 : N 0 ≤ 10) (hc0 : cf 0 = nI T) (hmm : mm < N 1) (esh : Q 1 mm = sh) (hsh : Q 1 mm < N 0) (e16 : G 16 mm = nI T) (e18 : G 18 mm = nI pl) (hpl : pl < 6) (e17 : G 17 mm = nI oo) (hoo : oo < 2) (hp50 : pf (50 + sh) = nI hh) (hh1 : 1 ≤ hh) (hh2 : hh ≤ T) (hst : (oo = 0 ∧ pf (40 + sh) = 0 ∧ G 10 sh = 1) ∨ (oo = 1 ∧ pf (40 + sh) = 2 ∧ G 10 sh = 3)) : KM l yL_isMove cL_isMove 11 (some .boolean) D Y (fun q => z ≤ q) (EC (fun q => z ≤ q) tE mi) 10 300 48 288 [.ref (ad 0), .ref (ac), .ref (ap), .int (nI mm)] (LV D Y z tE ac ap ad F G N Q cf pf) (some (.int 1)) (LV D Y z tE ac ap ad F G N Q cf pf) := by
  refine KM_of RL [(0, .ref (ad 0)), (1, .ref (ac)), (2, .ref (ap)), (3, .int (nI mm))] rfl (by decide) hsl (Nat.le_of_ble_eq_true rfl) rfl (lok_of rfl rfl) ?_
  intro p e s m args below meth c C0
  have hn0 := hJ.n0
  have h20 := z_n20 hJ h10
  have hT := hJ.tt.1
  obtain ⟨hnear, hday, hrdy⟩ := z_pil hJ hmm e16 e18 hpl
  obtain ⟨its, hits⟩ : ∃ n, n = 10000 * T + 100 * Q 1 mm + 10 * pl + oo := ⟨_, rfl⟩
  have hA : nI oo = (1 : Int32) → pf (40 + sh) = 2 ∧ G 10 sh = 3 := fun q => by
    rcases hst with ⟨a, _⟩ | ⟨_, b⟩
    · rw [a] at q; exact absurd q (by decide)
    · exact b
  have hB : ¬ nI oo = (1 : Int32) → pf (40 + sh) = 0 ∧ G 10 sh = 1 := fun q => by
    rcases hst with ⟨_, b⟩ | ⟨a, _⟩
    · exact b
    · rw [a] at q; exact absurd rfl q
  refine j_aload_n C0 dL_isMove_0 rfl ?_
  refine j_iload_n C0 dL_isMove_1 rfl ?_
  refine j_callVv C0 (lv_kx (z := z) (ac := ac) (ap := ap) (cf := cf) (pf := pf) (zv_move (F := F) (G := G) (N := N) (Q := Q) (m := mm) hmm (by omega) (hJ.num _ hsh) e16 e18 e17 hoo).1 ((zv_move (F := F) (G := G) (N := N) (Q := Q) (m := mm) hmm (by omega) (hJ.num _ hsh) e16 e18 e17 hoo).2.trans (congrArg nI hits.symm)) (k_X6_move hsl (A := AC z ac ap) (E := EC (AC z ac ap) tE mi) (fun U h => h) ad F G N Q (nI mm) )) mv_X6_move wm_L_105 (lv_recv C0) rfl rfl ⟨Nat.le_of_ble_eq_true rfl, Nat.le_of_ble_eq_true rfl⟩ (Nat.le_of_ble_eq_true rfl) ⟨by show _ ≤ (48 : Nat); omega, by show _ ≤ (288 : Nat); omega⟩ dL_isMove_2 ?_
  refine j_istore C0 (L' := [(0, .ref (ad 0)), (1, .ref (ac)), (2, .ref (ap)), (3, .int (nI mm)), (4, .int (nI its))]) dL_isMove_5 (by decide) rfl ?_
  refine j_iload C0 dL_isMove_7 rfl ?_
  refine j_bipush C0 (v := 100) dL_isMove_9 (by decide) ?_
  refine j_idiv C0 dL_isMove_11 (by decide) ?_
  refine j_top (nI (its / 100)) (pk_div (a := its) (d := 100) (by omega) (by first | decide | omega) (by first | decide | omega)) ?_
  refine j_bipush C0 (v := 100) dL_isMove_12 (by decide) ?_
  refine j_irem C0 dL_isMove_14 (by decide) ?_
  refine j_top (nI sh) (by rw [show (100 : Int32) = nI 100 from rfl, pk_rem (a := its / 100) (d := 100) (by omega) (by decide) (by decide)]; congr 1; omega) ?_
  refine j_istore C0 (L' := [(0, .ref (ad 0)), (1, .ref (ac)), (2, .ref (ap)), (3, .int (nI mm)), (4, .int (nI its)), (5, .int (nI sh))]) dL_isMove_15 (by decide) rfl ?_
  refine j_iload C0 dL_isMove_17 rfl ?_
  refine j_bipush C0 (v := 10) dL_isMove_19 (by decide) ?_
  refine j_idiv C0 dL_isMove_21 (by decide) ?_
  refine j_top (nI (its / 10)) (pk_div (a := its) (d := 10) (by omega) (by first | decide | omega) (by first | decide | omega)) ?_
  refine j_bipush C0 (v := 10) dL_isMove_22 (by decide) ?_
  refine j_irem C0 dL_isMove_24 (by decide) ?_
  refine j_top (nI pl) (by rw [show (10 : Int32) = nI 10 from rfl, pk_rem (a := its / 10) (d := 10) (by omega) (by decide) (by decide)]; congr 1; omega) ?_
  refine j_istore C0 (L' := [(0, .ref (ad 0)), (1, .ref (ac)), (2, .ref (ap)), (3, .int (nI mm)), (4, .int (nI its)), (5, .int (nI sh)), (6, .int (nI pl))]) dL_isMove_25 (by decide) rfl ?_
  refine j_iconst C0 (v := 0) dL_isMove_27 (by decide) ?_
  refine j_istore C0 (L' := [(0, .ref (ad 0)), (1, .ref (ac)), (2, .ref (ap)), (3, .int (nI mm)), (4, .int (nI its)), (5, .int (nI sh)), (6, .int (nI pl)), (7, .int ((0 : Int32)))]) dL_isMove_28 (by decide) rfl ?_
  refine j_iconst C0 (v := 0) dL_isMove_30 (by decide) ?_
  refine j_istore C0 (L' := [(0, .ref (ad 0)), (1, .ref (ac)), (2, .ref (ap)), (3, .int (nI mm)), (4, .int (nI its)), (5, .int (nI sh)), (6, .int (nI pl)), (7, .int ((0 : Int32))), (8, .int ((0 : Int32)))]) dL_isMove_31 (by decide) rfl ?_
  refine j_iconst C0 (v := 0) dL_isMove_33 (by decide) ?_
  refine j_istore C0 (L' := [(0, .ref (ad 0)), (1, .ref (ac)), (2, .ref (ap)), (3, .int (nI mm)), (4, .int (nI its)), (5, .int (nI sh)), (6, .int (nI pl)), (7, .int ((0 : Int32))), (8, .int ((0 : Int32))), (9, .int ((0 : Int32)))]) dL_isMove_34 (by decide) rfl ?_
  refine j_widen (k := 2 + 2 * 0) (n := 12 + 12 * 0) (by omega) (by omega) ?_
  refine j_castL (L' := [(0, .ref (ad 0)), (1, .ref (ac)), (2, .ref (ap)), (3, .int (nI mm)), (4, .int (nI its)), (5, .int (nI sh)), (6, .int (nI pl)), (7, .int ((0 : Int32))), (8, .int (nI (zC (zP24 (G 16) (G 18) (nI pl) T) 0))), (9, .int (nI 0))]) (rfl) ?_
  refine l_loop (P := fun (jj : Nat) => J p l e _ s m args below meth c (fun q => z ≤ q) 11 _ (LV D Y z tE ac ap ad F G N Q cf pf) (2 + 2 * jj) (12 + 12 * jj) 36 [(0, .ref (ad 0)), (1, .ref (ac)), (2, .ref (ap)), (3, .int (nI mm)), (4, .int (nI its)), (5, .int (nI sh)), (6, .int (nI pl)), (7, .int ((0 : Int32))), (8, .int (nI (zC (zP24 (G 16) (G 18) (nI pl) T) jj))), (9, .int (nI jj))] []) mm ?_ (fun jj hjj K36 => ?_)
  rotate_left
  ·
    show J p l e _ s m args below meth c (fun q => z ≤ q) 11 _ (LV D Y z tE ac ap ad F G N Q cf pf) (2 + 2 * jj) (12 + 12 * jj) 36 [(0, .ref (ad 0)), (1, .ref (ac)), (2, .ref (ap)), (3, .int (nI mm)), (4, .int (nI its)), (5, .int (nI sh)), (6, .int (nI pl)), (7, .int ((0 : Int32))), (8, .int (nI (zC (zP24 (G 16) (G 18) (nI pl) T) jj))), (9, .int (nI jj))] []
    replace K36 : J p l e _ s m args below meth c (fun q => z ≤ q) 11 _ (LV D Y z tE ac ap ad F G N Q cf pf) (2 + 2 * (jj + 1)) (12 + 12 * (jj + 1)) 36 [(0, .ref (ad 0)), (1, .ref (ac)), (2, .ref (ap)), (3, .int (nI mm)), (4, .int (nI its)), (5, .int (nI sh)), (6, .int (nI pl)), (7, .int ((0 : Int32))), (8, .int (nI (zC (zP24 (G 16) (G 18) (nI pl) T) (jj + 1)))), (9, .int (nI (jj + 1)))] [] := K36
    obtain ⟨hk, pk, ok, k1, k2, k3, k4, k5, k6, k7, k8⟩ := z_mvs hJ (Nat.lt_trans hjj hmm)
    have ekn := hJ.num _ k7
    obtain ⟨ik, hik⟩ : ∃ n, n = 10000 * hk + 100 * Q 1 jj + 10 * pk + ok := ⟨_, rfl⟩
    refine j_iload C0 dL_isMove_36 rfl ?_
    refine j_iload_n C0 dL_isMove_38 rfl ?_
    refine j_icmp_ge C0 132 dL_isMove_39 (by decide) (fun z9 => absurd z9 (nI_ge (by omega) (by omega))) (fun _ => ?_)
    refine j_aload_n C0 dL_isMove_42 rfl ?_
    refine j_iload C0 dL_isMove_43 rfl ?_
    refine j_callVv C0 (lv_kx (z := z) (ac := ac) (ap := ap) (cf := cf) (pf := pf) (zv_move (F := F) (G := G) (N := N) (Q := Q) (m := jj) (Nat.lt_trans hjj hmm) (by omega) ekn k4 k5 k6 k3).1 ((zv_move (F := F) (G := G) (N := N) (Q := Q) (m := jj) (Nat.lt_trans hjj hmm) (by omega) ekn k4 k5 k6 k3).2.trans (congrArg nI hik.symm)) (k_X6_move hsl (A := AC z ac ap) (E := EC (AC z ac ap) tE mi) (fun U h => h) ad F G N Q (nI jj) )) mv_X6_move wm_L_105 (lv_recv C0) rfl rfl ⟨Nat.le_of_ble_eq_true rfl, Nat.le_of_ble_eq_true rfl⟩ (Nat.le_of_ble_eq_true rfl) ⟨by show _ ≤ (48 : Nat); omega, by show _ ≤ (288 : Nat); omega⟩ dL_isMove_45 ?_
    refine j_istore C0 (L' := [(0, .ref (ad 0)), (1, .ref (ac)), (2, .ref (ap)), (3, .int (nI mm)), (4, .int (nI its)), (5, .int (nI sh)), (6, .int (nI pl)), (7, .int ((0 : Int32))), (8, .int (nI (zC (zP24 (G 16) (G 18) (nI pl) T) jj))), (9, .int (nI jj)), (10, .int (nI ik))]) dL_isMove_48 (by decide) rfl ?_
    refine j_iload C0 dL_isMove_50 rfl ?_
    refine j_iload C0 dL_isMove_52 rfl ?_
    refine j_bipush C0 (v := 10) dL_isMove_54 (by decide) ?_
    refine j_idiv C0 dL_isMove_56 (by decide) ?_
    refine j_top (nI (ik / 10)) (pk_div (a := ik) (d := 10) (by omega) (by first | decide | omega) (by first | decide | omega)) ?_
    refine j_bipush C0 (v := 10) dL_isMove_57 (by decide) ?_
    refine j_irem C0 dL_isMove_59 (by decide) ?_
    refine j_top (nI pk) (by rw [show (10 : Int32) = nI 10 from rfl, pk_rem (a := ik / 10) (d := 10) (by omega) (by decide) (by decide)]; congr 1; omega) ?_
    refine j_iload C0 dL_isMove_60 rfl ?_
    refine j_icmp_ne C0 84 dL_isMove_62 (by decide) (fun (q1 : ¬ (nI pk = nI pl)) => ?_) (fun (q1 : nI pk = nI pl) => ?_)
    ·
      refine j_iconst C0 (v := 0) dL_isMove_84 (by decide) ?_
      refine j_iadd C0 dL_isMove_85 ?_
      refine j_top ((0 : Int32)) (by decide) ?_
      refine j_istore C0 (L' := [(0, .ref (ad 0)), (1, .ref (ac)), (2, .ref (ap)), (3, .int (nI mm)), (4, .int (nI its)), (5, .int (nI sh)), (6, .int (nI pl)), (7, .int ((0 : Int32))), (8, .int (nI (zC (zP24 (G 16) (G 18) (nI pl) T) jj))), (9, .int (nI jj)), (10, .int (nI ik))]) dL_isMove_86 (by decide) rfl ?_
      refine j_iload C0 dL_isMove_88 rfl ?_
      refine j_iload C0 dL_isMove_90 rfl ?_
      refine j_bipush C0 (v := 10) dL_isMove_92 (by decide) ?_
      refine j_idiv C0 dL_isMove_94 (by decide) ?_
      refine j_top (nI (ik / 10)) (pk_div (a := ik) (d := 10) (by omega) (by first | decide | omega) (by first | decide | omega)) ?_
      refine j_bipush C0 (v := 10) dL_isMove_95 (by decide) ?_
      refine j_irem C0 dL_isMove_97 (by decide) ?_
      refine j_top (nI pk) (by rw [show (10 : Int32) = nI 10 from rfl, pk_rem (a := ik / 10) (d := 10) (by omega) (by decide) (by decide)]; congr 1; omega) ?_
      refine j_iload C0 dL_isMove_98 rfl ?_
      refine j_icmp_ne C0 122 dL_isMove_100 (by decide) (fun _ => ?_) (fun z9 => absurd z9 q1)
      refine j_iconst C0 (v := 0) dL_isMove_122 (by decide) ?_
      refine j_iadd C0 dL_isMove_123 ?_
      refine j_top (nI (zC (zP24 (G 16) (G 18) (nI pl) T) (jj + 1))) (zC_fI (z_p24f k8 (fun z9 => q1 (k5.symm.trans z9.1)))) ?_
      refine j_istore C0 (L' := [(0, .ref (ad 0)), (1, .ref (ac)), (2, .ref (ap)), (3, .int (nI mm)), (4, .int (nI its)), (5, .int (nI sh)), (6, .int (nI pl)), (7, .int ((0 : Int32))), (8, .int (nI (zC (zP24 (G 16) (G 18) (nI pl) T) (jj + 1)))), (9, .int (nI jj)), (10, .int (nI ik))]) dL_isMove_124 (by decide) rfl ?_
      refine j_iinc C0 (v := nI (jj + 1)) (L' := [(0, .ref (ad 0)), (1, .ref (ac)), (2, .ref (ap)), (3, .int (nI mm)), (4, .int (nI its)), (5, .int (nI sh)), (6, .int (nI pl)), (7, .int ((0 : Int32))), (8, .int (nI (zC (zP24 (G 16) (G 18) (nI pl) T) (jj + 1)))), (9, .int (nI (jj + 1))), (10, .int (nI ik))]) dL_isMove_126 rfl (nI_inc jj) (by decide) rfl ?_
      refine j_goto C0 36 dL_isMove_129 (by decide) ?_
      refine j_widen (k := 2 + 2 * (jj + 1)) (n := 12 + 12 * (jj + 1)) (by omega) (by omega) ?_
      refine j_locals (L' := [(0, .ref (ad 0)), (1, .ref (ac)), (2, .ref (ap)), (3, .int (nI mm)), (4, .int (nI its)), (5, .int (nI sh)), (6, .int (nI pl)), (7, .int ((0 : Int32))), (8, .int (nI (zC (zP24 (G 16) (G 18) (nI pl) T) (jj + 1)))), (9, .int (nI (jj + 1)))]) (fun q hq => by simp only [List.mem_cons, List.mem_nil_iff, or_false] at hq ⊢; rcases hq with rfl | rfl | rfl | rfl | rfl | rfl | rfl | rfl | rfl | rfl <;> simp) (lok_of rfl rfl) ?_
      exact K36
    ·
      refine j_iload C0 dL_isMove_65 rfl ?_
      refine j_sipush C0 (v := 10000) dL_isMove_67 (by decide) ?_
      refine j_idiv C0 dL_isMove_70 (by decide) ?_
      refine j_top (nI hk) (by rw [show (10000 : Int32) = nI 10000 from rfl, pk_div (a := ik) (d := 10000) (by omega) (by decide) (by decide)]; congr 1; omega) ?_
      refine j_aload_n C0 dL_isMove_71 rfl ?_
      refine j_iconst C0 (v := 0) dL_isMove_72 (by decide) ?_
      refine l_ldcN C0 (i := 0) (by omega) dL_isMove_73 (v := nI T) hc0 ?_
      refine j_bipush C0 (v := 6) dL_isMove_74 (by decide) ?_
      refine j_isub C0 dL_isMove_76 ?_
      refine j_icmp_le C0 84 dL_isMove_77 (by decide) (fun _ => ?_) (fun z9 => absurd ((z_cle (T := T) (h := hk) (c := 6) (by omega) (by omega) (by omega)).mpr (k8 ▸ hnear jj hjj (k5.trans q1))) z9)
      refine j_iconst C0 (v := 0) dL_isMove_84 (by decide) ?_
      refine j_iadd C0 dL_isMove_85 ?_
      refine j_top ((0 : Int32)) (by decide) ?_
      refine j_istore C0 (L' := [(0, .ref (ad 0)), (1, .ref (ac)), (2, .ref (ap)), (3, .int (nI mm)), (4, .int (nI its)), (5, .int (nI sh)), (6, .int (nI pl)), (7, .int ((0 : Int32))), (8, .int (nI (zC (zP24 (G 16) (G 18) (nI pl) T) jj))), (9, .int (nI jj)), (10, .int (nI ik))]) dL_isMove_86 (by decide) rfl ?_
      refine j_iload C0 dL_isMove_88 rfl ?_
      refine j_iload C0 dL_isMove_90 rfl ?_
      refine j_bipush C0 (v := 10) dL_isMove_92 (by decide) ?_
      refine j_idiv C0 dL_isMove_94 (by decide) ?_
      refine j_top (nI (ik / 10)) (pk_div (a := ik) (d := 10) (by omega) (by first | decide | omega) (by first | decide | omega)) ?_
      refine j_bipush C0 (v := 10) dL_isMove_95 (by decide) ?_
      refine j_irem C0 dL_isMove_97 (by decide) ?_
      refine j_top (nI pk) (by rw [show (10 : Int32) = nI 10 from rfl, pk_rem (a := ik / 10) (d := 10) (by omega) (by decide) (by decide)]; congr 1; omega) ?_
      refine j_iload C0 dL_isMove_98 rfl ?_
      refine j_icmp_ne C0 122 dL_isMove_100 (by decide) (fun z9 => absurd q1 z9) (fun _ => ?_)
      refine j_iload C0 dL_isMove_103 rfl ?_
      refine j_sipush C0 (v := 10000) dL_isMove_105 (by decide) ?_
      refine j_idiv C0 dL_isMove_108 (by decide) ?_
      refine j_top (nI hk) (by rw [show (10000 : Int32) = nI 10000 from rfl, pk_div (a := ik) (d := 10000) (by omega) (by decide) (by decide)]; congr 1; omega) ?_
      refine j_aload_n C0 dL_isMove_109 rfl ?_
      refine j_iconst C0 (v := 0) dL_isMove_110 (by decide) ?_
      refine l_ldcN C0 (i := 0) (by omega) dL_isMove_111 (v := nI T) hc0 ?_
      refine j_bipush C0 (v := 24) dL_isMove_112 (by decide) ?_
      refine j_isub C0 dL_isMove_114 ?_
      refine j_icmp_le C0 122 dL_isMove_115 (by decide) (fun (q2 : nI hk ≤ (nI T - (24 : Int32))) => ?_) (fun (q2 : ¬ (nI hk ≤ (nI T - (24 : Int32)))) => ?_)
      ·
        refine j_iconst C0 (v := 0) dL_isMove_122 (by decide) ?_
        refine j_iadd C0 dL_isMove_123 ?_
        refine j_top (nI (zC (zP24 (G 16) (G 18) (nI pl) T) (jj + 1))) (zC_fI (z_p24f k8 (fun z9 => by have := (z_cle (T := T) (h := hk) (c := 24) (by omega) (by omega) (by omega)).mp q2; omega))) ?_
        refine j_istore C0 (L' := [(0, .ref (ad 0)), (1, .ref (ac)), (2, .ref (ap)), (3, .int (nI mm)), (4, .int (nI its)), (5, .int (nI sh)), (6, .int (nI pl)), (7, .int ((0 : Int32))), (8, .int (nI (zC (zP24 (G 16) (G 18) (nI pl) T) (jj + 1)))), (9, .int (nI jj)), (10, .int (nI ik))]) dL_isMove_124 (by decide) rfl ?_
        refine j_iinc C0 (v := nI (jj + 1)) (L' := [(0, .ref (ad 0)), (1, .ref (ac)), (2, .ref (ap)), (3, .int (nI mm)), (4, .int (nI its)), (5, .int (nI sh)), (6, .int (nI pl)), (7, .int ((0 : Int32))), (8, .int (nI (zC (zP24 (G 16) (G 18) (nI pl) T) (jj + 1)))), (9, .int (nI (jj + 1))), (10, .int (nI ik))]) dL_isMove_126 rfl (nI_inc jj) (by decide) rfl ?_
        refine j_goto C0 36 dL_isMove_129 (by decide) ?_
        refine j_widen (k := 2 + 2 * (jj + 1)) (n := 12 + 12 * (jj + 1)) (by omega) (by omega) ?_
        refine j_locals (L' := [(0, .ref (ad 0)), (1, .ref (ac)), (2, .ref (ap)), (3, .int (nI mm)), (4, .int (nI its)), (5, .int (nI sh)), (6, .int (nI pl)), (7, .int ((0 : Int32))), (8, .int (nI (zC (zP24 (G 16) (G 18) (nI pl) T) (jj + 1)))), (9, .int (nI (jj + 1)))]) (fun q hq => by simp only [List.mem_cons, List.mem_nil_iff, or_false] at hq ⊢; rcases hq with rfl | rfl | rfl | rfl | rfl | rfl | rfl | rfl | rfl | rfl <;> simp) (lok_of rfl rfl) ?_
        exact K36
      ·
        refine j_iconst C0 (v := 1) dL_isMove_118 (by decide) ?_
        refine j_goto C0 123 dL_isMove_119 (by decide) ?_
        refine j_iadd C0 dL_isMove_123 ?_
        refine j_top (nI (zC (zP24 (G 16) (G 18) (nI pl) T) (jj + 1))) (zC_tI (z_p24t (k5.trans q1) k8 (by have := mt (z_cle (T := T) (h := hk) (c := 24) (by omega) (by omega) (by omega)).mpr q2; omega))) ?_
        refine j_istore C0 (L' := [(0, .ref (ad 0)), (1, .ref (ac)), (2, .ref (ap)), (3, .int (nI mm)), (4, .int (nI its)), (5, .int (nI sh)), (6, .int (nI pl)), (7, .int ((0 : Int32))), (8, .int (nI (zC (zP24 (G 16) (G 18) (nI pl) T) (jj + 1)))), (9, .int (nI jj)), (10, .int (nI ik))]) dL_isMove_124 (by decide) rfl ?_
        refine j_iinc C0 (v := nI (jj + 1)) (L' := [(0, .ref (ad 0)), (1, .ref (ac)), (2, .ref (ap)), (3, .int (nI mm)), (4, .int (nI its)), (5, .int (nI sh)), (6, .int (nI pl)), (7, .int ((0 : Int32))), (8, .int (nI (zC (zP24 (G 16) (G 18) (nI pl) T) (jj + 1)))), (9, .int (nI (jj + 1))), (10, .int (nI ik))]) dL_isMove_126 rfl (nI_inc jj) (by decide) rfl ?_
        refine j_goto C0 36 dL_isMove_129 (by decide) ?_
        refine j_widen (k := 2 + 2 * (jj + 1)) (n := 12 + 12 * (jj + 1)) (by omega) (by omega) ?_
        refine j_locals (L' := [(0, .ref (ad 0)), (1, .ref (ac)), (2, .ref (ap)), (3, .int (nI mm)), (4, .int (nI its)), (5, .int (nI sh)), (6, .int (nI pl)), (7, .int ((0 : Int32))), (8, .int (nI (zC (zP24 (G 16) (G 18) (nI pl) T) (jj + 1)))), (9, .int (nI (jj + 1)))]) (fun q hq => by simp only [List.mem_cons, List.mem_nil_iff, or_false] at hq ⊢; rcases hq with rfl | rfl | rfl | rfl | rfl | rfl | rfl | rfl | rfl | rfl <;> simp) (lok_of rfl rfl) ?_
        exact K36
  ·
    show J p l e _ s m args below meth c (fun q => z ≤ q) 11 _ (LV D Y z tE ac ap ad F G N Q cf pf) (2 + 2 * mm) (12 + 12 * mm) 36 [(0, .ref (ad 0)), (1, .ref (ac)), (2, .ref (ap)), (3, .int (nI mm)), (4, .int (nI its)), (5, .int (nI sh)), (6, .int (nI pl)), (7, .int ((0 : Int32))), (8, .int (nI (zC (zP24 (G 16) (G 18) (nI pl) T) mm))), (9, .int (nI mm))] []
    refine j_iload C0 dL_isMove_36 rfl ?_
    refine j_iload_n C0 dL_isMove_38 rfl ?_
    refine j_icmp_ge C0 132 dL_isMove_39 (by decide) (fun _ => ?_) (fun z9 => absurd (nI_le (Nat.le_refl _) (by omega)) z9)
    refine j_iload C0 dL_isMove_132 rfl ?_
    refine j_bipush C0 (v := 10) dL_isMove_134 (by decide) ?_
    refine j_irem C0 dL_isMove_136 (by decide) ?_
    refine j_top (nI oo) (by rw [show (10 : Int32) = nI 10 from rfl, pk_rem (a := its) (d := 10) (by omega) (by decide) (by decide)]; congr 1; omega) ?_
    refine j_iconst C0 (v := 1) dL_isMove_137 (by decide) ?_
    refine j_icmp_ne C0 145 dL_isMove_138 (by decide) (fun (q3 : ¬ (nI oo = (1 : Int32))) => ?_) (fun (q3 : nI oo = (1 : Int32)) => ?_)
    ·
      refine j_iconst C0 (v := 0) dL_isMove_145 (by decide) ?_
      refine j_istore C0 (L' := [(0, .ref (ad 0)), (1, .ref (ac)), (2, .ref (ap)), (3, .int (nI mm)), (4, .int (nI its)), (5, .int (nI sh)), (6, .int (nI pl)), (7, .int ((0 : Int32))), (8, .int (nI (zC (zP24 (G 16) (G 18) (nI pl) T) mm))), (9, .int ((0 : Int32)))]) dL_isMove_146 (by decide) rfl ?_
      refine j_aload_n C0 dL_isMove_148 rfl ?_
      refine j_bipush C0 (v := 50) dL_isMove_149 (by decide) ?_
      refine j_iload C0 dL_isMove_151 rfl ?_
      refine j_iadd C0 dL_isMove_153 ?_
      refine j_top (nI (50 + sh)) (nI_add 50 sh) ?_
      refine l_ldpN C0 (i := 50 + sh) (by omega) dL_isMove_154 (v := nI hh) hp50 ?_
      refine j_if_le C0 234 dL_isMove_155 (by decide) (fun z9 => absurd z9 (nI_nle (by omega) (by omega))) (fun _ => ?_)
      refine j_aload_n C0 dL_isMove_158 rfl ?_
      refine j_bipush C0 (v := 50) dL_isMove_159 (by decide) ?_
      refine j_iload C0 dL_isMove_161 rfl ?_
      refine j_iadd C0 dL_isMove_163 ?_
      refine j_top (nI (50 + sh)) (nI_add 50 sh) ?_
      refine l_ldpN C0 (i := 50 + sh) (by omega) dL_isMove_164 (v := nI hh) hp50 ?_
      refine j_aload_n C0 dL_isMove_165 rfl ?_
      refine j_iconst C0 (v := 0) dL_isMove_166 (by decide) ?_
      refine l_ldcN C0 (i := 0) (by omega) dL_isMove_167 (v := nI T) hc0 ?_
      refine j_icmp_gt C0 234 dL_isMove_168 (by decide) (fun z9 => absurd z9 (nI_nlt hh2 (by omega))) (fun _ => ?_)
      refine j_aload_n C0 dL_isMove_171 rfl ?_
      refine j_iload C0 dL_isMove_172 rfl ?_
      refine j_callVv C0 (lv_kx (z := z) (ac := ac) (ap := ap) (cf := cf) (pf := pf) (zv_state (F := F) (G := G) (N := N) (Q := Q) (k := sh) (by omega) hn0).1 ((zv_state (F := F) (G := G) (N := N) (Q := Q) (k := sh) (by omega) hn0).2.trans (hB q3).2) (k_X6_state hsl (A := AC z ac ap) (E := EC (AC z ac ap) tE mi) (fun U h => h) ad F G N Q (nI sh) )) mv_X6_state wm_L_80 (lv_recv C0) rfl rfl ⟨Nat.le_of_ble_eq_true rfl, Nat.le_of_ble_eq_true rfl⟩ (Nat.le_of_ble_eq_true rfl) ⟨by show _ ≤ (48 : Nat); omega, by show _ ≤ (288 : Nat); omega⟩ dL_isMove_174 ?_
      refine j_iload C0 dL_isMove_177 rfl ?_
      refine j_if_eq C0 186 dL_isMove_179 (by decide) (fun _ => ?_) (fun z9 => absurd (by decide) z9)
      refine j_iconst C0 (v := 1) dL_isMove_186 (by decide) ?_
      refine j_icmp_ne C0 234 dL_isMove_187 (by decide) (fun z9 => absurd (by decide) z9) (fun _ => ?_)
      refine j_iload C0 dL_isMove_190 rfl ?_
      refine j_if_eq C0 220 dL_isMove_192 (by decide) (fun _ => ?_) (fun z9 => absurd (by decide) z9)
      refine j_aload_n C0 dL_isMove_220 rfl ?_
      refine j_bipush C0 (v := 40) dL_isMove_221 (by decide) ?_
      refine j_iload C0 dL_isMove_223 rfl ?_
      refine j_iadd C0 dL_isMove_225 ?_
      refine j_top (nI (40 + sh)) (nI_add 40 sh) ?_
      refine l_ldpN C0 (i := 40 + sh) (by omega) dL_isMove_226 (v := (0 : Int32)) (hB q3).1 ?_
      refine j_if_ne C0 234 dL_isMove_227 (by decide) (fun z9 => absurd (by decide) z9) (fun _ => ?_)
      refine j_iconst C0 (v := 1) dL_isMove_230 (by decide) ?_
      refine j_goto C0 235 dL_isMove_231 (by decide) ?_
      refine j_istore C0 (L' := [(0, .ref (ad 0)), (1, .ref (ac)), (2, .ref (ap)), (3, .int (nI mm)), (4, .int (nI its)), (5, .int (nI sh)), (6, .int (nI pl)), (7, .int ((0 : Int32))), (8, .int (nI (zC (zP24 (G 16) (G 18) (nI pl) T) mm))), (9, .int ((0 : Int32))), (10, .int ((1 : Int32)))]) dL_isMove_235 (by decide) rfl ?_
      refine j_iload C0 dL_isMove_237 rfl ?_
      refine j_if_eq C0 286 dL_isMove_239 (by decide) (fun z9 => absurd z9 (by decide)) (fun _ => ?_)
      refine j_iload C0 dL_isMove_242 rfl ?_
      refine j_sipush C0 (v := 10000) dL_isMove_244 (by decide) ?_
      refine j_idiv C0 dL_isMove_247 (by decide) ?_
      refine j_top (nI T) (by rw [show (10000 : Int32) = nI 10000 from rfl, pk_div (a := its) (d := 10000) (by omega) (by decide) (by decide)]; congr 1; omega) ?_
      refine j_aload_n C0 dL_isMove_248 rfl ?_
      refine j_iconst C0 (v := 0) dL_isMove_249 (by decide) ?_
      refine l_ldcN C0 (i := 0) (by omega) dL_isMove_250 (v := nI T) hc0 ?_
      refine j_icmp_ne C0 286 dL_isMove_251 (by decide) (fun z9 => absurd rfl z9) (fun _ => ?_)
      refine j_iload C0 dL_isMove_254 rfl ?_
      refine j_if_ne C0 286 dL_isMove_256 (by decide) (fun z9 => absurd (by decide) z9) (fun _ => ?_)
      refine j_iload C0 dL_isMove_259 rfl ?_
      refine j_iconst C0 (v := 3) dL_isMove_261 (by decide) ?_
      refine j_icmp_ge C0 286 dL_isMove_262 (by decide) (fun z9 => absurd z9 (nI_ge hday (by decide))) (fun _ => ?_)
      refine j_aload_n C0 dL_isMove_265 rfl ?_
      refine j_iload C0 dL_isMove_266 rfl ?_
      refine j_callVv C0 (lv_kx (z := z) (ac := ac) (ap := ap) (cf := cf) (pf := pf) (zv_isReady (F := F) (G := G) (N := N) (Q := Q) (k := pl) hpl).1 ((zv_isReady (F := F) (G := G) (N := N) (Q := Q) (k := pl) hpl).2.trans hrdy) (k_X6_isReady hsl (A := AC z ac ap) (E := EC (AC z ac ap) tE mi) (fun U h => h) ad F G N Q (nI pl) )) mv_X6_isReady wm_L_108 (lv_recv C0) rfl rfl ⟨Nat.le_of_ble_eq_true rfl, Nat.le_of_ble_eq_true rfl⟩ (Nat.le_of_ble_eq_true rfl) ⟨by show _ ≤ (48 : Nat); omega, by show _ ≤ (288 : Nat); omega⟩ dL_isMove_268 ?_
      refine j_if_ne C0 286 dL_isMove_271 (by decide) (fun z9 => absurd (by decide) z9) (fun _ => ?_)
      refine j_aload_n C0 dL_isMove_274 rfl ?_
      refine j_iload_n C0 dL_isMove_275 rfl ?_
      refine j_callVv C0 (lv_kx (z := z) (ac := ac) (ap := ap) (cf := cf) (pf := pf) (zv_sound hJ hmm).1 (zv_sound hJ hmm).2 (k_X6_isSound hsl (A := AC z ac ap) (E := EC (AC z ac ap) tE mi) (fun U h => h) ad F G N Q (nI mm) hJ.hb hJ.hmh)) mv_X6_isSound wm_L_112 (lv_recv C0) rfl rfl ⟨Nat.le_of_ble_eq_true rfl, Nat.le_of_ble_eq_true rfl⟩ (Nat.le_of_ble_eq_true rfl) ⟨by show _ ≤ (48 : Nat); omega, by show _ ≤ (288 : Nat); omega⟩ dL_isMove_276 ?_
      refine j_if_eq C0 286 dL_isMove_279 (by decide) (fun z9 => absurd z9 (by decide)) (fun _ => ?_)
      refine j_iconst C0 (v := 1) dL_isMove_282 (by decide) ?_
      refine j_goto C0 287 dL_isMove_283 (by decide) ?_
      refine j_widen (k := 48) (n := 288) (by omega) (by omega) ?_
      exact j_zretE C0 rfl rfl (by decide) dL_isMove_287 (fun H h => h)
    ·
      refine j_iconst C0 (v := 1) dL_isMove_141 (by decide) ?_
      refine j_goto C0 146 dL_isMove_142 (by decide) ?_
      refine j_istore C0 (L' := [(0, .ref (ad 0)), (1, .ref (ac)), (2, .ref (ap)), (3, .int (nI mm)), (4, .int (nI its)), (5, .int (nI sh)), (6, .int (nI pl)), (7, .int ((0 : Int32))), (8, .int (nI (zC (zP24 (G 16) (G 18) (nI pl) T) mm))), (9, .int ((1 : Int32)))]) dL_isMove_146 (by decide) rfl ?_
      refine j_aload_n C0 dL_isMove_148 rfl ?_
      refine j_bipush C0 (v := 50) dL_isMove_149 (by decide) ?_
      refine j_iload C0 dL_isMove_151 rfl ?_
      refine j_iadd C0 dL_isMove_153 ?_
      refine j_top (nI (50 + sh)) (nI_add 50 sh) ?_
      refine l_ldpN C0 (i := 50 + sh) (by omega) dL_isMove_154 (v := nI hh) hp50 ?_
      refine j_if_le C0 234 dL_isMove_155 (by decide) (fun z9 => absurd z9 (nI_nle (by omega) (by omega))) (fun _ => ?_)
      refine j_aload_n C0 dL_isMove_158 rfl ?_
      refine j_bipush C0 (v := 50) dL_isMove_159 (by decide) ?_
      refine j_iload C0 dL_isMove_161 rfl ?_
      refine j_iadd C0 dL_isMove_163 ?_
      refine j_top (nI (50 + sh)) (nI_add 50 sh) ?_
      refine l_ldpN C0 (i := 50 + sh) (by omega) dL_isMove_164 (v := nI hh) hp50 ?_
      refine j_aload_n C0 dL_isMove_165 rfl ?_
      refine j_iconst C0 (v := 0) dL_isMove_166 (by decide) ?_
      refine l_ldcN C0 (i := 0) (by omega) dL_isMove_167 (v := nI T) hc0 ?_
      refine j_icmp_gt C0 234 dL_isMove_168 (by decide) (fun z9 => absurd z9 (nI_nlt hh2 (by omega))) (fun _ => ?_)
      refine j_aload_n C0 dL_isMove_171 rfl ?_
      refine j_iload C0 dL_isMove_172 rfl ?_
      refine j_callVv C0 (lv_kx (z := z) (ac := ac) (ap := ap) (cf := cf) (pf := pf) (zv_state (F := F) (G := G) (N := N) (Q := Q) (k := sh) (by omega) hn0).1 ((zv_state (F := F) (G := G) (N := N) (Q := Q) (k := sh) (by omega) hn0).2.trans (hA q3).2) (k_X6_state hsl (A := AC z ac ap) (E := EC (AC z ac ap) tE mi) (fun U h => h) ad F G N Q (nI sh) )) mv_X6_state wm_L_80 (lv_recv C0) rfl rfl ⟨Nat.le_of_ble_eq_true rfl, Nat.le_of_ble_eq_true rfl⟩ (Nat.le_of_ble_eq_true rfl) ⟨by show _ ≤ (48 : Nat); omega, by show _ ≤ (288 : Nat); omega⟩ dL_isMove_174 ?_
      refine j_iload C0 dL_isMove_177 rfl ?_
      refine j_if_eq C0 186 dL_isMove_179 (by decide) (fun z9 => absurd z9 (by decide)) (fun _ => ?_)
      refine j_iconst C0 (v := 3) dL_isMove_182 (by decide) ?_
      refine j_goto C0 187 dL_isMove_183 (by decide) ?_
      refine j_icmp_ne C0 234 dL_isMove_187 (by decide) (fun z9 => absurd (by decide) z9) (fun _ => ?_)
      refine j_iload C0 dL_isMove_190 rfl ?_
      refine j_if_eq C0 220 dL_isMove_192 (by decide) (fun z9 => absurd z9 (by decide)) (fun _ => ?_)
      refine j_aload_n C0 dL_isMove_195 rfl ?_
      refine j_bipush C0 (v := 40) dL_isMove_196 (by decide) ?_
      refine j_iload C0 dL_isMove_198 rfl ?_
      refine j_iadd C0 dL_isMove_200 ?_
      refine j_top (nI (40 + sh)) (nI_add 40 sh) ?_
      refine l_ldpN C0 (i := 40 + sh) (by omega) dL_isMove_201 (v := (2 : Int32)) (hA q3).1 ?_
      refine j_iconst C0 (v := 2) dL_isMove_202 (by decide) ?_
      refine j_icmp_eq C0 230 dL_isMove_203 (by decide) (fun _ => ?_) (fun z9 => absurd (by decide) z9)
      refine j_iconst C0 (v := 1) dL_isMove_230 (by decide) ?_
      refine j_goto C0 235 dL_isMove_231 (by decide) ?_
      refine j_istore C0 (L' := [(0, .ref (ad 0)), (1, .ref (ac)), (2, .ref (ap)), (3, .int (nI mm)), (4, .int (nI its)), (5, .int (nI sh)), (6, .int (nI pl)), (7, .int ((0 : Int32))), (8, .int (nI (zC (zP24 (G 16) (G 18) (nI pl) T) mm))), (9, .int ((1 : Int32))), (10, .int ((1 : Int32)))]) dL_isMove_235 (by decide) rfl ?_
      refine j_iload C0 dL_isMove_237 rfl ?_
      refine j_if_eq C0 286 dL_isMove_239 (by decide) (fun z9 => absurd z9 (by decide)) (fun _ => ?_)
      refine j_iload C0 dL_isMove_242 rfl ?_
      refine j_sipush C0 (v := 10000) dL_isMove_244 (by decide) ?_
      refine j_idiv C0 dL_isMove_247 (by decide) ?_
      refine j_top (nI T) (by rw [show (10000 : Int32) = nI 10000 from rfl, pk_div (a := its) (d := 10000) (by omega) (by decide) (by decide)]; congr 1; omega) ?_
      refine j_aload_n C0 dL_isMove_248 rfl ?_
      refine j_iconst C0 (v := 0) dL_isMove_249 (by decide) ?_
      refine l_ldcN C0 (i := 0) (by omega) dL_isMove_250 (v := nI T) hc0 ?_
      refine j_icmp_ne C0 286 dL_isMove_251 (by decide) (fun z9 => absurd rfl z9) (fun _ => ?_)
      refine j_iload C0 dL_isMove_254 rfl ?_
      refine j_if_ne C0 286 dL_isMove_256 (by decide) (fun z9 => absurd (by decide) z9) (fun _ => ?_)
      refine j_iload C0 dL_isMove_259 rfl ?_
      refine j_iconst C0 (v := 3) dL_isMove_261 (by decide) ?_
      refine j_icmp_ge C0 286 dL_isMove_262 (by decide) (fun z9 => absurd z9 (nI_ge hday (by decide))) (fun _ => ?_)
      refine j_aload_n C0 dL_isMove_265 rfl ?_
      refine j_iload C0 dL_isMove_266 rfl ?_
      refine j_callVv C0 (lv_kx (z := z) (ac := ac) (ap := ap) (cf := cf) (pf := pf) (zv_isReady (F := F) (G := G) (N := N) (Q := Q) (k := pl) hpl).1 ((zv_isReady (F := F) (G := G) (N := N) (Q := Q) (k := pl) hpl).2.trans hrdy) (k_X6_isReady hsl (A := AC z ac ap) (E := EC (AC z ac ap) tE mi) (fun U h => h) ad F G N Q (nI pl) )) mv_X6_isReady wm_L_108 (lv_recv C0) rfl rfl ⟨Nat.le_of_ble_eq_true rfl, Nat.le_of_ble_eq_true rfl⟩ (Nat.le_of_ble_eq_true rfl) ⟨by show _ ≤ (48 : Nat); omega, by show _ ≤ (288 : Nat); omega⟩ dL_isMove_268 ?_
      refine j_if_ne C0 286 dL_isMove_271 (by decide) (fun z9 => absurd (by decide) z9) (fun _ => ?_)
      refine j_aload_n C0 dL_isMove_274 rfl ?_
      refine j_iload_n C0 dL_isMove_275 rfl ?_
      refine j_callVv C0 (lv_kx (z := z) (ac := ac) (ap := ap) (cf := cf) (pf := pf) (zv_sound hJ hmm).1 (zv_sound hJ hmm).2 (k_X6_isSound hsl (A := AC z ac ap) (E := EC (AC z ac ap) tE mi) (fun U h => h) ad F G N Q (nI mm) hJ.hb hJ.hmh)) mv_X6_isSound wm_L_112 (lv_recv C0) rfl rfl ⟨Nat.le_of_ble_eq_true rfl, Nat.le_of_ble_eq_true rfl⟩ (Nat.le_of_ble_eq_true rfl) ⟨by show _ ≤ (48 : Nat); omega, by show _ ≤ (288 : Nat); omega⟩ dL_isMove_276 ?_
      refine j_if_eq C0 286 dL_isMove_279 (by decide) (fun z9 => absurd z9 (by decide)) (fun _ => ?_)
      refine j_iconst C0 (v := 1) dL_isMove_282 (by decide) ?_
      refine j_goto C0 287 dL_isMove_283 (by decide) ?_
      refine j_widen (k := 48) (n := 288) (by omega) (by omega) ?_
      exact j_zretE C0 rfl rfl (by decide) dL_isMove_287 (fun H h => h)
end
