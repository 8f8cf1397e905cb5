section
set_option maxRecDepth 100000 in
set_option maxHeartbeats 4000000 in
theorem ls_616 {p : Program} {l : Launch} {e : Env} {s : State} {m : MethodId} {args : Array Value} {below : List Frame} {meth : Method} {c : Code} (hsl : l.stackTraces = false) {D : va_G} {Y : Nat → ClassId} {z tE mi ac ap : Nat} {ad : Nat → Nat} (C0 : CX p l s m args meth c RL cL_step 21 (some .boolean) D Y (fun q => z ≤ q) (EC (fun q => z ≤ q) tE mi)) {t : Nat} (F : Nat → Int32) (G : Nat → Nat → Int32) (N : Nat → Nat) (Q : Nat → Nat → Nat) (cf pf : Nat → Int32) (hL : zL t F G N Q cf pf) (a b k w : Nat) (ha : a < 2 ^ 31) (hb : b < 2 ^ 31) (hk : 0 < N 0 → k < N 0) : J p l e { frames := 14, cells := 3900, slots := 33000, locals := 610 } s m args below meth c (fun q => z ≤ q) 21 (MQ below (KQ (fun q => z ≤ q) (LG D Y z tE ac ap ad) (some (.int 1))) args s 3900 33000 (fun q => z ≤ q)) (LV D Y z tE ac ap ad F G N Q cf pf) 0 0 616 [(0, .ref (ad 0)), (1, .ref (ac)), (2, .ref (ap)), (3, .int (nI w)), (4, .int (nI a)), (5, .int (nI b)), (6, .int (nI k))] [] := by
  have hn0 := hL.1.n0
  have hn1 := hL.1.n1
  have h10 := hL.2.1.1
  have htt := hL.1.tt.1
  have hM := hL.2.2.2.2.2.2.2.1
  obtain ⟨e1, e2, pb, hpb, ev, e4⟩ := z_Lswap hL (x := a % 6) (y := ((a % 6) + 1 + (b % 5)) % 6) (by omega) (by omega) (by omega)
  refine j_iload C0 dL_step_616 rfl ?_
  refine j_bipush C0 (v := 6) dL_step_618 (by decide) ?_
  refine j_irem C0 dL_step_620 (by decide) ?_
  refine j_top (nI (a % 6)) (pk_rem (a := a) (d := 6) (by omega) (by first | decide | omega) (by first | decide | omega)) ?_
  refine j_istore C0 (L' := [(0, .ref (ad 0)), (1, .ref (ac)), (2, .ref (ap)), (3, .int (nI w)), (4, .int (nI a)), (5, .int (nI b)), (6, .int (nI k)), (14, .int (nI (a % 6)))]) dL_step_621 (by decide) rfl ?_
  refine j_iload C0 dL_step_623 rfl ?_
  refine j_iconst C0 (v := 1) dL_step_625 (by decide) ?_
  refine j_iadd C0 dL_step_626 ?_
  refine j_top (nI ((a % 6) + 1)) (nI_add (a % 6) 1) ?_
  refine j_iload C0 dL_step_627 rfl ?_
  refine j_iconst C0 (v := 5) dL_step_629 (by decide) ?_
  refine j_irem C0 dL_step_630 (by decide) ?_
  refine j_top (nI (b % 5)) (pk_rem (a := b) (d := 5) (by omega) (by first | decide | omega) (by first | decide | omega)) ?_
  refine j_iadd C0 dL_step_631 ?_
  refine j_top (nI (((a % 6) + 1) + (b % 5))) (nI_add ((a % 6) + 1) (b % 5)) ?_
  refine j_bipush C0 (v := 6) dL_step_632 (by decide) ?_
  refine j_irem C0 dL_step_634 (by decide) ?_
  refine j_top (nI ((((a % 6) + 1) + (b % 5)) % 6)) (pk_rem (a := ((a % 6) + 1) + (b % 5)) (d := 6) (by omega) (by first | decide | omega) (by first | decide | omega)) ?_
  refine j_istore C0 (L' := [(0, .ref (ad 0)), (1, .ref (ac)), (2, .ref (ap)), (3, .int (nI w)), (4, .int (nI a)), (5, .int (nI b)), (6, .int (nI k)), (14, .int (nI (a % 6))), (15, .int (nI ((((a % 6) + 1) + (b % 5)) % 6)))]) dL_step_635 (by decide) rfl ?_
  refine j_aload_n C0 dL_step_637 rfl ?_
  refine j_iload C0 dL_step_638 rfl ?_
  refine j_iload C0 dL_step_640 rfl ?_
  refine j_callVv C0 (lv_kx (z := z) (ac := ac) (ap := ap) (cf := cf) (pf := pf) e1 ev (k_X6_swap hsl (A := AC z ac ap) (E := EC (AC z ac ap) tE mi) (fun U h => h) ad F G N Q (nI (a % 6)) (nI (((a % 6) + 1 + (b % 5)) % 6)) )) mv_X6_swap wm_L_51 (lv_recv C0) rfl rfl ⟨Nat.le_of_ble_eq_true rfl, Nat.le_of_ble_eq_true rfl⟩ (Nat.le_of_ble_eq_true rfl) ⟨by show _ ≤ (3900 : Nat); omega, by show _ ≤ (33000 : Nat); omega⟩ dL_step_642 ?_
  generalize sX6_swap F G N Q (nI (a % 6)) (nI (((a % 6) + 1 + (b % 5)) % 6)) = S3 at e2 e4 ⊢
  refine j_istore C0 (L' := [(0, .ref (ad 0)), (1, .ref (ac)), (2, .ref (ap)), (3, .int (nI w)), (4, .int (nI a)), (5, .int (nI b)), (6, .int (nI k)), (14, .int (nI (a % 6))), (15, .int (nI ((((a % 6) + 1) + (b % 5)) % 6))), (16, .int (nI pb))]) dL_step_645 (by decide) rfl ?_
  refine j_aload_n C0 dL_step_647 rfl ?_
  refine j_iload C0 dL_step_648 rfl ?_
  refine j_callVv C0 (lv_kx (z := z) (ac := ac) (ap := ap) (cf := cf) (pf := pf) (zv_rota (F := F) (G := (hu G 3 S3)) (N := N) (Q := Q) (k := pb) hpb).1 ((zv_rota (F := F) (G := (hu G 3 S3)) (N := N) (Q := Q) (k := pb) hpb).2.trans e4) (k_X6_rota hsl (A := AC z ac ap) (E := EC (AC z ac ap) tE mi) (fun U h => h) ad F (hu G 3 S3) N Q (nI pb) )) mv_X6_rota wm_L_54 (lv_recv C0) rfl rfl ⟨Nat.le_of_ble_eq_true rfl, Nat.le_of_ble_eq_true rfl⟩ (Nat.le_of_ble_eq_true rfl) ⟨by show _ ≤ (3900 : Nat); omega, by show _ ≤ (33000 : Nat); omega⟩ dL_step_650 ?_
  refine j_iload C0 dL_step_653 rfl ?_
  refine j_icmp_ne C0 669 dL_step_655 (by decide) (fun z9 => absurd rfl z9) (fun _ => ?_)
  refine j_aload_n C0 dL_step_658 rfl ?_
  refine j_callSv C0 (k_L_isRota hsl F (hu G 3 S3) N Q cf pf e2.1.pm) ms_L_isRota wm_L_57 rfl rfl ⟨Nat.le_of_ble_eq_true rfl, Nat.le_of_ble_eq_true rfl⟩ (Nat.le_of_ble_eq_true rfl) ⟨by show _ ≤ (3900 : Nat); omega, by show _ ≤ (33000 : Nat); omega⟩ dL_step_659 ?_
  refine j_if_eq C0 669 dL_step_662 (by decide) (fun z9 => absurd z9 (by decide)) (fun _ => ?_)
  refine j_iconst C0 (v := 1) dL_step_665 (by decide) ?_
  refine j_goto C0 670 dL_step_666 (by decide) ?_
  refine j_widen (k := 3900) (n := 33000) (by omega) (by omega) ?_
  exact j_zretE C0 rfl rfl (by decide) dL_step_670 (lg_of e2)
set_option maxRecDepth 100000 in
set_option maxHeartbeats 4000000 in
theorem ls_671 {p : Program} {l : Launch} {e : Env} {s : State} {m : MethodId} {args : Array Value} {below : List Frame} {meth : Method} {c : Code} (hsl : l.stackTraces = false) {D : va_G} {Y : Nat → ClassId} {z tE mi ac ap : Nat} {ad : Nat → Nat} (C0 : CX p l s m args meth c RL cL_step 21 (some .boolean) D Y (fun q => z ≤ q) (EC (fun q => z ≤ q) tE mi)) {t : Nat} (F : Nat → Int32) (G : Nat → Nat → Int32) (N : Nat → Nat) (Q : Nat → Nat → Nat) (cf pf : Nat → Int32) (hL : zL t F G N Q cf pf) (a b k w : Nat) (ha : a < 2 ^ 31) (hb : b < 2 ^ 31) (hk : 0 < N 0 → k < N 0) : J p l e { frames := 14, cells := 3900, slots := 33000, locals := 610 } s m args below meth c (fun q => z ≤ q) 21 (MQ below (KQ (fun q => z ≤ q) (LG D Y z tE ac ap ad) (some (.int 1))) args s 3900 33000 (fun q => z ≤ q)) (LV D Y z tE ac ap ad F G N Q cf pf) 0 0 671 [(0, .ref (ad 0)), (1, .ref (ac)), (2, .ref (ap)), (3, .int (nI w)), (4, .int (nI a)), (5, .int (nI b)), (6, .int (nI k))] [] := by
  have hn0 := hL.1.n0
  have hn1 := hL.1.n1
  have h10 := hL.2.1.1
  have htt := hL.1.tt.1
  have hM := hL.2.2.2.2.2.2.2.1
  obtain ⟨w9, hw9, etg, hbit⟩ := zv_tugs hL.1
  refine j_aload_n C0 dL_step_671 rfl ?_
  refine j_iconst C0 (v := 1) dL_step_672 (by decide) ?_
  refine l_ldcN C0 (i := 1) (by omega) dL_step_673 (v := nI (N 0)) hL.2.2.2.1 ?_
  refine j_if_eq C0 686 dL_step_674 (by decide) (fun (q1 : nI (N 0) = 0) => ?_) (fun (q1 : ¬ (nI (N 0) = 0)) => ?_)
  ·
    refine j_aload_n C0 dL_step_686 rfl ?_
    refine j_callVv C0 (lv_kx (z := z) (ac := ac) (ap := ap) (cf := cf) (pf := pf) (show eX6_tugs F G N Q = 0 ∧ vX6_tugs F G N Q = nI w9 from ⟨rfl, etg⟩).1 (show eX6_tugs F G N Q = 0 ∧ vX6_tugs F G N Q = nI w9 from ⟨rfl, etg⟩).2 (k_X6_tugs hsl (A := AC z ac ap) (E := EC (AC z ac ap) tE mi) (fun U h => h) ad F G N Q  )) mv_X6_tugs wm_L_64 (lv_recv C0) rfl rfl ⟨Nat.le_of_ble_eq_true rfl, Nat.le_of_ble_eq_true rfl⟩ (Nat.le_of_ble_eq_true rfl) ⟨by show _ ≤ (3900 : Nat); omega, by show _ ≤ (33000 : Nat); omega⟩ dL_step_687 ?_
    refine j_bipush C0 (v := 64) dL_step_690 (by decide) ?_
    refine j_icmp_ge C0 699 dL_step_692 (by decide) (fun z9 => absurd z9 (nI_ge hw9 (by decide))) (fun _ => ?_)
    refine j_iconst C0 (v := 1) dL_step_695 (by decide) ?_
    refine j_goto C0 700 dL_step_696 (by decide) ?_
    refine j_widen (k := 3900) (n := 33000) (by omega) (by omega) ?_
    exact j_zretE C0 rfl rfl (by decide) dL_step_700 (lg_of hL)
  ·
    have hk9 : k < N 0 := hk (by
      apply Classical.byContradiction
      intro z9
      have e9 : N 0 = 0 := by omega
      exact q1 (by rw [e9]; rfl))
    refine j_aload_n C0 dL_step_677 rfl ?_
    refine j_iload C0 dL_step_678 rfl ?_
    refine j_callVv C0 (lv_kx (z := z) (ac := ac) (ap := ap) (cf := cf) (pf := pf) (zv_claims (F := F) (G := G) (N := N) (Q := Q) (k := k) hk9 hn0).1 (zv_claims (F := F) (G := G) (N := N) (Q := Q) (k := k) hk9 hn0).2 (k_X6_claims hsl (A := AC z ac ap) (E := EC (AC z ac ap) tE mi) (fun U h => h) ad F G N Q (nI k) )) mv_X6_claims wm_L_61 (lv_recv C0) rfl rfl ⟨Nat.le_of_ble_eq_true rfl, Nat.le_of_ble_eq_true rfl⟩ (Nat.le_of_ble_eq_true rfl) ⟨by show _ ≤ (3900 : Nat); omega, by show _ ≤ (33000 : Nat); omega⟩ dL_step_680 ?_
    refine j_if_ne C0 701 dL_step_683 (by decide) (fun (q2 : ¬ (G 15 k = 0)) => ?_) (fun (q2 : G 15 k = 0) => ?_)
    ·
      obtain ⟨e1, e2, e3, e4, e5⟩ := z_Lpay hL (k := k) hk9 q2
      refine j_aload_n C0 dL_step_701 rfl ?_
      refine j_iload C0 dL_step_702 rfl ?_
      refine j_callVv C0 (lv_kx (z := z) (ac := ac) (ap := ap) (cf := cf) (pf := pf) (zv_claims (F := F) (G := G) (N := N) (Q := Q) (k := k) hk9 hn0).1 (zv_claims (F := F) (G := G) (N := N) (Q := Q) (k := k) hk9 hn0).2 (k_X6_claims hsl (A := AC z ac ap) (E := EC (AC z ac ap) tE mi) (fun U h => h) ad F G N Q (nI k) )) mv_X6_claims wm_L_61 (lv_recv C0) rfl rfl ⟨Nat.le_of_ble_eq_true rfl, Nat.le_of_ble_eq_true rfl⟩ (Nat.le_of_ble_eq_true rfl) ⟨by show _ ≤ (3900 : Nat); omega, by show _ ≤ (33000 : Nat); omega⟩ dL_step_704 ?_
      refine j_istore C0 (L' := [(0, .ref (ad 0)), (1, .ref (ac)), (2, .ref (ap)), (3, .int (nI w)), (4, .int (nI a)), (5, .int (nI b)), (6, .int (nI k)), (17, .int (G 15 k))]) dL_step_707 (by decide) rfl ?_
      refine j_aload_n C0 dL_step_709 rfl ?_
      refine j_iload C0 dL_step_710 rfl ?_
      refine j_callVv C0 (lv_kx (z := z) (ac := ac) (ap := ap) (cf := cf) (pf := pf) (zv_paid (F := F) (G := G) (N := N) (Q := Q) (k := k) hk9 hn0).1 (zv_paid (F := F) (G := G) (N := N) (Q := Q) (k := k) hk9 hn0).2 (k_X6_paid hsl (A := AC z ac ap) (E := EC (AC z ac ap) tE mi) (fun U h => h) ad F G N Q (nI k) )) mv_X6_paid wm_L_67 (lv_recv C0) rfl rfl ⟨Nat.le_of_ble_eq_true rfl, Nat.le_of_ble_eq_true rfl⟩ (Nat.le_of_ble_eq_true rfl) ⟨by show _ ≤ (3900 : Nat); omega, by show _ ≤ (33000 : Nat); omega⟩ dL_step_712 ?_
      refine j_istore C0 (L' := [(0, .ref (ad 0)), (1, .ref (ac)), (2, .ref (ap)), (3, .int (nI w)), (4, .int (nI a)), (5, .int (nI b)), (6, .int (nI k)), (17, .int (G 15 k)), (18, .int (G 13 k))]) dL_step_715 (by decide) rfl ?_
      refine j_aload_n C0 dL_step_717 rfl ?_
      refine j_iload C0 dL_step_718 rfl ?_
      refine j_callVv C0 (lv_kx (z := z) (ac := ac) (ap := ap) (cf := cf) (pf := pf) e1 e2 (k_X6_payClaim hsl (A := AC z ac ap) (E := EC (AC z ac ap) tE mi) (fun U h => h) ad F G N Q (nI k) )) mv_X6_payClaim wm_L_70 (lv_recv C0) rfl rfl ⟨Nat.le_of_ble_eq_true rfl, Nat.le_of_ble_eq_true rfl⟩ (Nat.le_of_ble_eq_true rfl) ⟨by show _ ≤ (3900 : Nat); omega, by show _ ≤ (33000 : Nat); omega⟩ dL_step_720 ?_
      replace e4 : (hu (hu G 13 (sX6_payClaim F G N Q (nI k)).2.1) 15 (sX6_payClaim F G N Q (nI k)).2.2) 13 k = G 13 k - (80 : Int32) * pf k := e4
      replace e5 : (hu (hu G 13 (sX6_payClaim F G N Q (nI k)).2.1) 15 (sX6_payClaim F G N Q (nI k)).2.2) 15 k = G 15 k - 1 := e5
      generalize hu (hu G 13 (sX6_payClaim F G N Q (nI k)).2.1) 15 (sX6_payClaim F G N Q (nI k)).2.2 = G1 at e3 e4 e5 ⊢
      generalize hu F 2 (sX6_payClaim F G N Q (nI k)).1 = F1 at e3 ⊢
      refine j_bipush C0 (v := 80) dL_step_723 (by decide) ?_
      refine j_aload_n C0 dL_step_725 rfl ?_
      refine j_iload C0 dL_step_726 rfl ?_
      refine l_ldpN C0 (i := k) (by omega) dL_step_728 (v := pf k) rfl ?_
      refine j_imul C0 dL_step_729 ?_
      refine j_icmp_ne C0 769 dL_step_730 (by decide) (fun z9 => absurd rfl z9) (fun _ => ?_)
      refine j_aload_n C0 dL_step_733 rfl ?_
      refine j_iload C0 dL_step_734 rfl ?_
      refine j_callVv C0 (lv_kx (z := z) (ac := ac) (ap := ap) (cf := cf) (pf := pf) (zv_claims (F := F1) (G := G1) (N := N) (Q := Q) (k := k) hk9 hn0).1 ((zv_claims (F := F1) (G := G1) (N := N) (Q := Q) (k := k) hk9 hn0).2.trans e5) (k_X6_claims hsl (A := AC z ac ap) (E := EC (AC z ac ap) tE mi) (fun U h => h) ad F1 G1 N Q (nI k) )) mv_X6_claims wm_L_61 (lv_recv C0) rfl rfl ⟨Nat.le_of_ble_eq_true rfl, Nat.le_of_ble_eq_true rfl⟩ (Nat.le_of_ble_eq_true rfl) ⟨by show _ ≤ (3900 : Nat); omega, by show _ ≤ (33000 : Nat); omega⟩ dL_step_736 ?_
      refine j_iload C0 dL_step_739 rfl ?_
      refine j_iconst C0 (v := 1) dL_step_741 (by decide) ?_
      refine j_isub C0 dL_step_742 ?_
      refine j_icmp_ne C0 769 dL_step_743 (by decide) (fun z9 => absurd rfl z9) (fun _ => ?_)
      refine j_aload_n C0 dL_step_746 rfl ?_
      refine j_iload C0 dL_step_747 rfl ?_
      refine j_callVv C0 (lv_kx (z := z) (ac := ac) (ap := ap) (cf := cf) (pf := pf) (zv_paid (F := F1) (G := G1) (N := N) (Q := Q) (k := k) hk9 hn0).1 ((zv_paid (F := F1) (G := G1) (N := N) (Q := Q) (k := k) hk9 hn0).2.trans e4) (k_X6_paid hsl (A := AC z ac ap) (E := EC (AC z ac ap) tE mi) (fun U h => h) ad F1 G1 N Q (nI k) )) mv_X6_paid wm_L_67 (lv_recv C0) rfl rfl ⟨Nat.le_of_ble_eq_true rfl, Nat.le_of_ble_eq_true rfl⟩ (Nat.le_of_ble_eq_true rfl) ⟨by show _ ≤ (3900 : Nat); omega, by show _ ≤ (33000 : Nat); omega⟩ dL_step_749 ?_
      refine j_iload C0 dL_step_752 rfl ?_
      refine j_bipush C0 (v := 80) dL_step_754 (by decide) ?_
      refine j_aload_n C0 dL_step_756 rfl ?_
      refine j_iload C0 dL_step_757 rfl ?_
      refine l_ldpN C0 (i := k) (by omega) dL_step_759 (v := pf k) rfl ?_
      refine j_imul C0 dL_step_760 ?_
      refine j_isub C0 dL_step_761 ?_
      refine j_icmp_ne C0 769 dL_step_762 (by decide) (fun z9 => absurd rfl z9) (fun _ => ?_)
      refine j_iconst C0 (v := 1) dL_step_765 (by decide) ?_
      refine j_goto C0 770 dL_step_766 (by decide) ?_
      refine j_widen (k := 3900) (n := 33000) (by omega) (by omega) ?_
      exact j_zretE C0 rfl rfl (by decide) dL_step_770 (lg_of e3)
    ·
      refine j_aload_n C0 dL_step_686 rfl ?_
      refine j_callVv C0 (lv_kx (z := z) (ac := ac) (ap := ap) (cf := cf) (pf := pf) (show eX6_tugs F G N Q = 0 ∧ vX6_tugs F G N Q = nI w9 from ⟨rfl, etg⟩).1 (show eX6_tugs F G N Q = 0 ∧ vX6_tugs F G N Q = nI w9 from ⟨rfl, etg⟩).2 (k_X6_tugs hsl (A := AC z ac ap) (E := EC (AC z ac ap) tE mi) (fun U h => h) ad F G N Q  )) mv_X6_tugs wm_L_64 (lv_recv C0) rfl rfl ⟨Nat.le_of_ble_eq_true rfl, Nat.le_of_ble_eq_true rfl⟩ (Nat.le_of_ble_eq_true rfl) ⟨by show _ ≤ (3900 : Nat); omega, by show _ ≤ (33000 : Nat); omega⟩ dL_step_687 ?_
      refine j_bipush C0 (v := 64) dL_step_690 (by decide) ?_
      refine j_icmp_ge C0 699 dL_step_692 (by decide) (fun z9 => absurd z9 (nI_ge hw9 (by decide))) (fun _ => ?_)
      refine j_iconst C0 (v := 1) dL_step_695 (by decide) ?_
      refine j_goto C0 700 dL_step_696 (by decide) ?_
      refine j_widen (k := 3900) (n := 33000) (by omega) (by omega) ?_
      exact j_zretE C0 rfl rfl (by decide) dL_step_700 (lg_of hL)
set_option maxRecDepth 100000 in
set_option maxHeartbeats 4000000 in
theorem ls_771 {p : Program} {l : Launch} {e : Env} {s : State} {m : MethodId} {args : Array Value} {below : List Frame} {meth : Method} {c : Code} (hsl : l.stackTraces = false) {D : va_G} {Y : Nat → ClassId} {z tE mi ac ap : Nat} {ad : Nat → Nat} (C0 : CX p l s m args meth c RL cL_step 21 (some .boolean) D Y (fun q => z ≤ q) (EC (fun q => z ≤ q) tE mi)) {t : Nat} (F : Nat → Int32) (G : Nat → Nat → Int32) (N : Nat → Nat) (Q : Nat → Nat → Nat) (cf pf : Nat → Int32) (hL : zL t F G N Q cf pf) (a b k w : Nat) (ha : a < 2 ^ 31) (hb : b < 2 ^ 31) (hk : 0 < N 0 → k < N 0) : J p l e { frames := 14, cells := 3900, slots := 33000, locals := 610 } s m args below meth c (fun q => z ≤ q) 21 (MQ below (KQ (fun q => z ≤ q) (LG D Y z tE ac ap ad) (some (.int 1))) args s 3900 33000 (fun q => z ≤ q)) (LV D Y z tE ac ap ad F G N Q cf pf) 0 0 771 [(0, .ref (ad 0)), (1, .ref (ac)), (2, .ref (ap)), (3, .int (nI w)), (4, .int (nI a)), (5, .int (nI b)), (6, .int (nI k))] [] := by
  have hn0 := hL.1.n0
  have hn1 := hL.1.n1
  have h10 := hL.2.1.1
  have htt := hL.1.tt.1
  have hM := hL.2.2.2.2.2.2.2.1
  refine j_world (Ω' := (LG D Y z tE ac ap ad)) (lg_of hL) ?_
  refine j_iconst C0 (v := 1) dL_step_771 (by decide) ?_
  refine j_istore C0 (L' := [(0, .ref (ad 0)), (1, .ref (ac)), (2, .ref (ap)), (3, .int (nI w)), (4, .int (nI a)), (5, .int (nI b)), (6, .int (nI k)), (19, .int ((1 : Int32)))]) dL_step_772 (by decide) rfl ?_
  refine j_iconst C0 (v := 0) dL_step_774 (by decide) ?_
  refine j_istore C0 (L' := [(0, .ref (ad 0)), (1, .ref (ac)), (2, .ref (ap)), (3, .int (nI w)), (4, .int (nI a)), (5, .int (nI b)), (6, .int (nI k)), (19, .int ((1 : Int32))), (20, .int ((0 : Int32)))]) dL_step_775 (by decide) rfl ?_
  refine j_widen (k := 480 * 0) (n := 4060 * 0) (by omega) (by omega) ?_
  refine j_castL (L' := [(0, .ref (ad 0)), (1, .ref (ac)), (2, .ref (ap)), (3, .int (nI w)), (4, .int (nI a)), (5, .int (nI b)), (6, .int (nI k)), (19, .int ((1 : Int32))), (20, .int (nI 0))]) (rfl) ?_
  refine l_loop (P := fun (jj : Nat) => J p l e _ s m args below meth c (fun q => z ≤ q) 21 _ (LG D Y z tE ac ap ad) (480 * jj) (4060 * jj) 777 [(0, .ref (ad 0)), (1, .ref (ac)), (2, .ref (ap)), (3, .int (nI w)), (4, .int (nI a)), (5, .int (nI b)), (6, .int (nI k)), (19, .int ((1 : Int32))), (20, .int (nI jj))] []) ((1 + (b % 8))) ?_ (fun jj hjj K777 => ?_)
  rotate_left
  ·
    show J p l e _ s m args below meth c (fun q => z ≤ q) 21 _ (LG D Y z tE ac ap ad) (480 * jj) (4060 * jj) 777 [(0, .ref (ad 0)), (1, .ref (ac)), (2, .ref (ap)), (3, .int (nI w)), (4, .int (nI a)), (5, .int (nI b)), (6, .int (nI k)), (19, .int ((1 : Int32))), (20, .int (nI jj))] []
    replace K777 : J p l e _ s m args below meth c (fun q => z ≤ q) 21 _ (LG D Y z tE ac ap ad) (480 * (jj + 1)) (4060 * (jj + 1)) 777 [(0, .ref (ad 0)), (1, .ref (ac)), (2, .ref (ap)), (3, .int (nI w)), (4, .int (nI a)), (5, .int (nI b)), (6, .int (nI k)), (19, .int ((1 : Int32))), (20, .int (nI (jj + 1)))] [] := K777
    refine j_iload C0 dL_step_777 rfl ?_
    refine j_iconst C0 (v := 1) dL_step_779 (by decide) ?_
    refine j_iload C0 dL_step_780 rfl ?_
    refine j_bipush C0 (v := 8) dL_step_782 (by decide) ?_
    refine j_irem C0 dL_step_784 (by decide) ?_
    refine j_top (nI (b % 8)) (pk_rem (a := b) (d := 8) (by omega) (by first | decide | omega) (by first | decide | omega)) ?_
    refine j_iadd C0 dL_step_785 ?_
    refine j_top (nI (1 + (b % 8))) (nI_add 1 (b % 8)) ?_
    refine j_icmp_ge C0 808 dL_step_786 (by decide) (fun z9 => absurd z9 (nI_ge (by omega) (by omega))) (fun _ => ?_)
    refine j_iload C0 dL_step_789 rfl ?_
    refine j_if_eq C0 808 dL_step_791 (by decide) (fun z9 => absurd z9 (by decide)) (fun _ => ?_)
    refine j_aload_n C0 dL_step_794 rfl ?_
    refine j_aload_n C0 dL_step_795 rfl ?_
    refine j_aload_n C0 dL_step_796 rfl ?_
    refine j_callSv C0 (k_L_hours hsl) ms_L_hours wm_L_73 rfl rfl ⟨Nat.le_of_ble_eq_true rfl, Nat.le_of_ble_eq_true rfl⟩ (Nat.le_of_ble_eq_true rfl) ⟨by show _ ≤ (3900 : Nat); omega, by show _ ≤ (33000 : Nat); omega⟩ dL_step_797 ?_
    refine j_istore C0 (L' := [(0, .ref (ad 0)), (1, .ref (ac)), (2, .ref (ap)), (3, .int (nI w)), (4, .int (nI a)), (5, .int (nI b)), (6, .int (nI k)), (19, .int ((1 : Int32))), (20, .int (nI jj))]) dL_step_800 (by decide) rfl ?_
    refine j_iinc C0 (v := nI (jj + 1)) (L' := [(0, .ref (ad 0)), (1, .ref (ac)), (2, .ref (ap)), (3, .int (nI w)), (4, .int (nI a)), (5, .int (nI b)), (6, .int (nI k)), (19, .int ((1 : Int32))), (20, .int (nI (jj + 1)))]) dL_step_802 rfl (nI_inc jj) (by decide) rfl ?_
    refine j_goto C0 777 dL_step_805 (by decide) ?_
    refine j_widen (k := 480 * (jj + 1)) (n := 4060 * (jj + 1)) (by omega) (by omega) ?_
    exact K777
  ·
    show J p l e _ s m args below meth c (fun q => z ≤ q) 21 _ (LG D Y z tE ac ap ad) (480 * ((1 + (b % 8)))) (4060 * ((1 + (b % 8)))) 777 [(0, .ref (ad 0)), (1, .ref (ac)), (2, .ref (ap)), (3, .int (nI w)), (4, .int (nI a)), (5, .int (nI b)), (6, .int (nI k)), (19, .int ((1 : Int32))), (20, .int (nI ((1 + (b % 8)))))] []
    refine j_iload C0 dL_step_777 rfl ?_
    refine j_iconst C0 (v := 1) dL_step_779 (by decide) ?_
    refine j_iload C0 dL_step_780 rfl ?_
    refine j_bipush C0 (v := 8) dL_step_782 (by decide) ?_
    refine j_irem C0 dL_step_784 (by decide) ?_
    refine j_top (nI (b % 8)) (pk_rem (a := b) (d := 8) (by omega) (by first | decide | omega) (by first | decide | omega)) ?_
    refine j_iadd C0 dL_step_785 ?_
    refine j_top (nI (1 + (b % 8))) (nI_add 1 (b % 8)) ?_
    refine j_icmp_ge C0 808 dL_step_786 (by decide) (fun _ => ?_) (fun z9 => absurd (nI_le (Nat.le_refl _) (by omega)) z9)
    refine j_iload C0 dL_step_808 rfl ?_
    refine j_widen (k := 3900) (n := 33000) (by omega) (by omega) ?_
    exact j_zretE C0 rfl rfl (by decide) dL_step_810 (fun H h => h)
end
