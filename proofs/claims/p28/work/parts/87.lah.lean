section
theorem z_p0 {t : Nat} {F : Nat → Int32} {G : Nat → Nat → Int32} {N : Nat → Nat} {Q : Nat → Nat → Nat} {cf pf : Nat → Int32} (hL : zL t F G N Q cf pf) {k : Nat} (hk : k < N 0) (h : ¬ 0 < pf (50 + k)) : pf (50 + k) = 0 := by
  have e := (hL.2.2.2.2.2.2.2.1 k hk).2.2.2.2.2
  rcases zo_ord (hL.2.1.2.2.2.2.2 k hk) with ⟨a, b⟩ | ⟨a, x, x1, x2, x3, x4⟩
  · rw [e, b]
  · rw [e, x4] at h
    exact absurd (Int32.not_le.mp (nI_nle (by omega) (by omega))) h
set_option maxRecDepth 100000 in
set_option maxHeartbeats 4000000 in
theorem ls_376 {p : Program} {l : Launch} {e : Env} {s : State} {m : MethodId} {args : Array Value} {below : List Frame} {meth : Method} {c : Code} (hsl : l.stackTraces = false) {D : va_G} {Y : Nat → ClassId} {z tE mi ac ap : Nat} {ad : Nat → Nat} (C0 : CX p l s m args meth c RL cL_step 21 (some .boolean) D Y (fun q => z ≤ q) (EC (fun q => z ≤ q) tE mi)) {t : Nat} (F : Nat → Int32) (G : Nat → Nat → Int32) (N : Nat → Nat) (Q : Nat → Nat → Nat) (cf pf : Nat → Int32) (hL : zL t F G N Q cf pf) (a b k w : Nat) (ha : a < 2 ^ 31) (hb : b < 2 ^ 31) (hk : 0 < N 0 → k < N 0) : J p l e { frames := 14, cells := 3900, slots := 33000, locals := 610 } s m args below meth c (fun q => z ≤ q) 21 (MQ below (KQ (fun q => z ≤ q) (LG D Y z tE ac ap ad) (some (.int 1))) args s 3900 33000 (fun q => z ≤ q)) (LV D Y z tE ac ap ad F G N Q cf pf) 0 0 376 [(0, .ref (ad 0)), (1, .ref (ac)), (2, .ref (ap)), (3, .int (nI w)), (4, .int (nI a)), (5, .int (nI b)), (6, .int (nI k))] [] := by
  have hn0 := hL.1.n0
  have hn1 := hL.1.n1
  have h10 := hL.2.1.1
  have htt := hL.1.tt.1
  have hM := hL.2.2.2.2.2.2.2.1
  refine j_aload_n C0 dL_step_376 rfl ?_
  refine j_iconst C0 (v := 1) dL_step_377 (by decide) ?_
  refine l_ldcN C0 (i := 1) (by omega) dL_step_378 (v := nI (N 0)) hL.2.2.2.1 ?_
  refine j_if_eq C0 422 dL_step_379 (by decide) (fun (q1 : nI (N 0) = 0) => ?_) (fun (q1 : ¬ (nI (N 0) = 0)) => ?_)
  ·
    refine j_aload_n C0 dL_step_422 rfl ?_
    refine j_callVv C0 (lv_kx (z := z) (ac := ac) (ap := ap) (cf := cf) (pf := pf) rfl rfl (k_X6_moves hsl (A := AC z ac ap) (E := EC (AC z ac ap) tE mi) (fun U h => h) ad F G N Q  )) mv_X6_moves wm_L_29 (lv_recv C0) rfl rfl ⟨Nat.le_of_ble_eq_true rfl, Nat.le_of_ble_eq_true rfl⟩ (Nat.le_of_ble_eq_true rfl) ⟨by show _ ≤ (3900 : Nat); omega, by show _ ≤ (33000 : Nat); omega⟩ dL_step_423 ?_
    refine j_aload_n C0 dL_step_426 rfl ?_
    refine j_iconst C0 (v := 2) dL_step_427 (by decide) ?_
    refine l_ldcN C0 (i := 2) (by omega) dL_step_428 (v := nI (N 1)) hL.2.2.2.2.1 ?_
    refine j_icmp_ne C0 436 dL_step_429 (by decide) (fun z9 => absurd rfl z9) (fun _ => ?_)
    refine j_iconst C0 (v := 1) dL_step_432 (by decide) ?_
    refine j_goto C0 437 dL_step_433 (by decide) ?_
    refine j_widen (k := 3900) (n := 33000) (by omega) (by omega) ?_
    exact j_zretE C0 rfl rfl (by decide) dL_step_437 (lg_of hL)
  ·
    have hk9 : k < N 0 := hk (by
      apply Classical.byContradiction
      intro z9
      have e9 : N 0 = 0 := by omega
      exact q1 (by rw [e9]; rfl))
    refine j_aload_n C0 dL_step_382 rfl ?_
    refine j_bipush C0 (v := 50) dL_step_383 (by decide) ?_
    refine j_iload C0 dL_step_385 rfl ?_
    refine j_iadd C0 dL_step_387 ?_
    refine j_top (nI (50 + k)) (nI_add 50 k) ?_
    refine l_ldpN C0 (i := 50 + k) (by omega) dL_step_388 (v := pf (50 + k)) rfl ?_
    refine j_if_gt C0 422 dL_step_389 (by decide) (fun (q2 : 0 < pf (50 + k)) => ?_) (fun (q2 : ¬ (0 < pf (50 + k))) => ?_)
    ·
      refine j_aload_n C0 dL_step_422 rfl ?_
      refine j_callVv C0 (lv_kx (z := z) (ac := ac) (ap := ap) (cf := cf) (pf := pf) rfl rfl (k_X6_moves hsl (A := AC z ac ap) (E := EC (AC z ac ap) tE mi) (fun U h => h) ad F G N Q  )) mv_X6_moves wm_L_29 (lv_recv C0) rfl rfl ⟨Nat.le_of_ble_eq_true rfl, Nat.le_of_ble_eq_true rfl⟩ (Nat.le_of_ble_eq_true rfl) ⟨by show _ ≤ (3900 : Nat); omega, by show _ ≤ (33000 : Nat); omega⟩ dL_step_423 ?_
      refine j_aload_n C0 dL_step_426 rfl ?_
      refine j_iconst C0 (v := 2) dL_step_427 (by decide) ?_
      refine l_ldcN C0 (i := 2) (by omega) dL_step_428 (v := nI (N 1)) hL.2.2.2.2.1 ?_
      refine j_icmp_ne C0 436 dL_step_429 (by decide) (fun z9 => absurd rfl z9) (fun _ => ?_)
      refine j_iconst C0 (v := 1) dL_step_432 (by decide) ?_
      refine j_goto C0 437 dL_step_433 (by decide) ?_
      refine j_widen (k := 3900) (n := 33000) (by omega) (by omega) ?_
      exact j_zretE C0 rfl rfl (by decide) dL_step_437 (lg_of hL)
    ·
      refine j_aload_n C0 dL_step_392 rfl ?_
      refine j_bipush C0 (v := 40) dL_step_393 (by decide) ?_
      refine j_iload C0 dL_step_395 rfl ?_
      refine j_iadd C0 dL_step_397 ?_
      refine j_top (nI (40 + k)) (nI_add 40 k) ?_
      refine l_ldpN C0 (i := 40 + k) (by omega) dL_step_398 (v := pf (40 + k)) rfl ?_
      refine j_if_eq C0 413 dL_step_399 (by decide) (fun (q3 : pf (40 + k) = 0) => ?_) (fun (q3 : ¬ (pf (40 + k) = 0)) => ?_)
      ·
        refine j_aload_n C0 dL_step_413 rfl ?_
        refine j_iconst C0 (v := 0) dL_step_414 (by decide) ?_
        refine l_ldcN C0 (i := 0) (by omega) dL_step_415 (v := nI t) hL.2.2.1 ?_
        refine j_sipush C0 (v := 2900) dL_step_416 (by decide) ?_
        refine j_icmp_le C0 438 dL_step_419 (by decide) (fun (q4 : nI t ≤ (2900 : Int32)) => ?_) (fun (q4 : ¬ (nI t ≤ (2900 : Int32))) => ?_)
        ·
          have ht29 : t ≤ 2900 := (nI_leI (a := t) (b := 2900) (by omega) (by decide)).mp q4
          obtain ⟨e1, e2, e3⟩ := z_Lorder hL (k := k) (h := ((t + 1) + (b % 20))) hk9 (by omega) (by omega) (Or.inl q3) (z_p0 hL hk9 q2)
          refine j_aload_n C0 dL_step_438 rfl ?_
          refine j_bipush C0 (v := 50) dL_step_439 (by decide) ?_
          refine j_iload C0 dL_step_441 rfl ?_
          refine j_iadd C0 dL_step_443 ?_
          refine j_top (nI (50 + k)) (nI_add 50 k) ?_
          refine j_aload_n C0 dL_step_444 rfl ?_
          refine j_iconst C0 (v := 0) dL_step_445 (by decide) ?_
          refine l_ldcN C0 (i := 0) (by omega) dL_step_446 (v := nI t) hL.2.2.1 ?_
          refine j_iconst C0 (v := 1) dL_step_447 (by decide) ?_
          refine j_iadd C0 dL_step_448 ?_
          refine j_top (nI (t + 1)) (nI_add t 1) ?_
          refine j_iload C0 dL_step_449 rfl ?_
          refine j_bipush C0 (v := 20) dL_step_451 (by decide) ?_
          refine j_irem C0 dL_step_453 (by decide) ?_
          refine j_top (nI (b % 20)) (pk_rem (a := b) (d := 20) (by omega) (by first | decide | omega) (by first | decide | omega)) ?_
          refine j_iadd C0 dL_step_454 ?_
          refine j_top (nI ((t + 1) + (b % 20))) (nI_add (t + 1) (b % 20)) ?_
          refine l_stpN C0 (i := 50 + k) (by omega) dL_step_455 ?_
          refine j_aload_n C0 dL_step_456 rfl ?_
          refine j_iconst C0 (v := 3) dL_step_457 (by decide) ?_
          refine j_dup2 C0 dL_step_458 rfl rfl ?_
          refine l_ldcN C0 (i := 3) (by omega) dL_step_459 (v := nI (N 2)) hL.2.2.2.2.2.1 ?_
          refine j_iconst C0 (v := 1) dL_step_460 (by decide) ?_
          refine j_iadd C0 dL_step_461 ?_
          refine j_top (nI ((N 2) + 1)) (nI_add (N 2) 1) ?_
          refine l_stcN C0 (i := 3) (by omega) dL_step_462 ?_
          refine j_aload_n C0 dL_step_463 rfl ?_
          refine j_iload C0 dL_step_464 rfl ?_
          refine j_aload_n C0 dL_step_466 rfl ?_
          refine j_bipush C0 (v := 50) dL_step_467 (by decide) ?_
          refine j_iload C0 dL_step_469 rfl ?_
          refine j_iadd C0 dL_step_471 ?_
          refine j_top (nI (50 + k)) (nI_add 50 k) ?_
          refine l_ldpN C0 (i := 50 + k) (by omega) dL_step_472 (v := nI ((t + 1) + (b % 20))) up_s ?_
          refine j_callVv C0 (lv_kx (z := z) (ac := ac) (ap := ap) (cf := (upd cf 3 (nI ((N 2) + 1)))) (pf := (upd pf (50 + k) (nI ((t + 1) + (b % 20))))) e1 e2 (k_X6_order hsl (A := AC z ac ap) (E := EC (AC z ac ap) tE mi) (fun U h => h) ad F G N Q (nI k) (nI ((t + 1) + (b % 20))) (by have := hL.1.n2; omega))) mv_X6_order wm_L_37 (lv_recv C0) rfl rfl ⟨Nat.le_of_ble_eq_true rfl, Nat.le_of_ble_eq_true rfl⟩ (Nat.le_of_ble_eq_true rfl) ⟨by show _ ≤ (3900 : Nat); omega, by show _ ≤ (33000 : Nat); omega⟩ dL_step_473 ?_
          generalize hu G 12 (sX6_order F G N Q (nI k) (nI ((t + 1) + (b % 20)))).2.2 = G1 at e3 ⊢
          generalize hu N 2 (sX6_order F G N Q (nI k) (nI ((t + 1) + (b % 20)))).1 = N1 at e3 ⊢
          generalize hu Q 0 (sX6_order F G N Q (nI k) (nI ((t + 1) + (b % 20)))).2.1 = Q1 at e3 ⊢
          refine j_aload_n C0 dL_step_476 rfl ?_
          refine j_iconst C0 (v := 3) dL_step_477 (by decide) ?_
          refine l_ldcN C0 (i := 3) (by omega) dL_step_478 (v := nI (N 2 + 1)) up_s ?_
          refine j_icmp_ne C0 495 dL_step_479 (by decide) (fun z9 => absurd rfl z9) (fun _ => ?_)
          refine j_aload_n C0 dL_step_482 rfl ?_
          refine j_aload_n C0 dL_step_483 rfl ?_
          refine j_aload_n C0 dL_step_484 rfl ?_
          refine j_callSv C0 (k_L_areOrders hsl F G1 N1 Q1 (upd cf 3 (nI ((N 2) + 1))) (upd pf (50 + k) (nI ((t + 1) + (b % 20)))) e3) ms_L_areOrders wm_L_41 rfl rfl ⟨Nat.le_of_ble_eq_true rfl, Nat.le_of_ble_eq_true rfl⟩ (Nat.le_of_ble_eq_true rfl) ⟨by show _ ≤ (3900 : Nat); omega, by show _ ≤ (33000 : Nat); omega⟩ dL_step_485 ?_
          refine j_if_eq C0 495 dL_step_488 (by decide) (fun z9 => absurd z9 (by decide)) (fun _ => ?_)
          refine j_iconst C0 (v := 1) dL_step_491 (by decide) ?_
          refine j_goto C0 496 dL_step_492 (by decide) ?_
          refine j_widen (k := 3900) (n := 33000) (by omega) (by omega) ?_
          exact j_zretE C0 rfl rfl (by decide) dL_step_496 (lg_of e3)
        ·
          refine j_aload_n C0 dL_step_422 rfl ?_
          refine j_callVv C0 (lv_kx (z := z) (ac := ac) (ap := ap) (cf := cf) (pf := pf) rfl rfl (k_X6_moves hsl (A := AC z ac ap) (E := EC (AC z ac ap) tE mi) (fun U h => h) ad F G N Q  )) mv_X6_moves wm_L_29 (lv_recv C0) rfl rfl ⟨Nat.le_of_ble_eq_true rfl, Nat.le_of_ble_eq_true rfl⟩ (Nat.le_of_ble_eq_true rfl) ⟨by show _ ≤ (3900 : Nat); omega, by show _ ≤ (33000 : Nat); omega⟩ dL_step_423 ?_
          refine j_aload_n C0 dL_step_426 rfl ?_
          refine j_iconst C0 (v := 2) dL_step_427 (by decide) ?_
          refine l_ldcN C0 (i := 2) (by omega) dL_step_428 (v := nI (N 1)) hL.2.2.2.2.1 ?_
          refine j_icmp_ne C0 436 dL_step_429 (by decide) (fun z9 => absurd rfl z9) (fun _ => ?_)
          refine j_iconst C0 (v := 1) dL_step_432 (by decide) ?_
          refine j_goto C0 437 dL_step_433 (by decide) ?_
          refine j_widen (k := 3900) (n := 33000) (by omega) (by omega) ?_
          exact j_zretE C0 rfl rfl (by decide) dL_step_437 (lg_of hL)
      ·
        refine j_aload_n C0 dL_step_402 rfl ?_
        refine j_bipush C0 (v := 40) dL_step_403 (by decide) ?_
        refine j_iload C0 dL_step_405 rfl ?_
        refine j_iadd C0 dL_step_407 ?_
        refine j_top (nI (40 + k)) (nI_add 40 k) ?_
        refine l_ldpN C0 (i := 40 + k) (by omega) dL_step_408 (v := pf (40 + k)) rfl ?_
        refine j_iconst C0 (v := 2) dL_step_409 (by decide) ?_
        refine j_icmp_ne C0 422 dL_step_410 (by decide) (fun (q5 : ¬ (pf (40 + k) = (2 : Int32))) => ?_) (fun (q5 : pf (40 + k) = (2 : Int32)) => ?_)
        ·
          refine j_aload_n C0 dL_step_422 rfl ?_
          refine j_callVv C0 (lv_kx (z := z) (ac := ac) (ap := ap) (cf := cf) (pf := pf) rfl rfl (k_X6_moves hsl (A := AC z ac ap) (E := EC (AC z ac ap) tE mi) (fun U h => h) ad F G N Q  )) mv_X6_moves wm_L_29 (lv_recv C0) rfl rfl ⟨Nat.le_of_ble_eq_true rfl, Nat.le_of_ble_eq_true rfl⟩ (Nat.le_of_ble_eq_true rfl) ⟨by show _ ≤ (3900 : Nat); omega, by show _ ≤ (33000 : Nat); omega⟩ dL_step_423 ?_
          refine j_aload_n C0 dL_step_426 rfl ?_
          refine j_iconst C0 (v := 2) dL_step_427 (by decide) ?_
          refine l_ldcN C0 (i := 2) (by omega) dL_step_428 (v := nI (N 1)) hL.2.2.2.2.1 ?_
          refine j_icmp_ne C0 436 dL_step_429 (by decide) (fun z9 => absurd rfl z9) (fun _ => ?_)
          refine j_iconst C0 (v := 1) dL_step_432 (by decide) ?_
          refine j_goto C0 437 dL_step_433 (by decide) ?_
          refine j_widen (k := 3900) (n := 33000) (by omega) (by omega) ?_
          exact j_zretE C0 rfl rfl (by decide) dL_step_437 (lg_of hL)
        ·
          refine j_aload_n C0 dL_step_413 rfl ?_
          refine j_iconst C0 (v := 0) dL_step_414 (by decide) ?_
          refine l_ldcN C0 (i := 0) (by omega) dL_step_415 (v := nI t) hL.2.2.1 ?_
          refine j_sipush C0 (v := 2900) dL_step_416 (by decide) ?_
          refine j_icmp_le C0 438 dL_step_419 (by decide) (fun (q6 : nI t ≤ (2900 : Int32)) => ?_) (fun (q6 : ¬ (nI t ≤ (2900 : Int32))) => ?_)
          ·
            have ht29 : t ≤ 2900 := (nI_leI (a := t) (b := 2900) (by omega) (by decide)).mp q6
            obtain ⟨e1, e2, e3⟩ := z_Lorder hL (k := k) (h := ((t + 1) + (b % 20))) hk9 (by omega) (by omega) (Or.inr q5) (z_p0 hL hk9 q2)
            refine j_aload_n C0 dL_step_438 rfl ?_
            refine j_bipush C0 (v := 50) dL_step_439 (by decide) ?_
            refine j_iload C0 dL_step_441 rfl ?_
            refine j_iadd C0 dL_step_443 ?_
            refine j_top (nI (50 + k)) (nI_add 50 k) ?_
            refine j_aload_n C0 dL_step_444 rfl ?_
            refine j_iconst C0 (v := 0) dL_step_445 (by decide) ?_
            refine l_ldcN C0 (i := 0) (by omega) dL_step_446 (v := nI t) hL.2.2.1 ?_
            refine j_iconst C0 (v := 1) dL_step_447 (by decide) ?_
            refine j_iadd C0 dL_step_448 ?_
            refine j_top (nI (t + 1)) (nI_add t 1) ?_
            refine j_iload C0 dL_step_449 rfl ?_
            refine j_bipush C0 (v := 20) dL_step_451 (by decide) ?_
            refine j_irem C0 dL_step_453 (by decide) ?_
            refine j_top (nI (b % 20)) (pk_rem (a := b) (d := 20) (by omega) (by first | decide | omega) (by first | decide | omega)) ?_
            refine j_iadd C0 dL_step_454 ?_
            refine j_top (nI ((t + 1) + (b % 20))) (nI_add (t + 1) (b % 20)) ?_
            refine l_stpN C0 (i := 50 + k) (by omega) dL_step_455 ?_
            refine j_aload_n C0 dL_step_456 rfl ?_
            refine j_iconst C0 (v := 3) dL_step_457 (by decide) ?_
            refine j_dup2 C0 dL_step_458 rfl rfl ?_
            refine l_ldcN C0 (i := 3) (by omega) dL_step_459 (v := nI (N 2)) hL.2.2.2.2.2.1 ?_
            refine j_iconst C0 (v := 1) dL_step_460 (by decide) ?_
            refine j_iadd C0 dL_step_461 ?_
            refine j_top (nI ((N 2) + 1)) (nI_add (N 2) 1) ?_
            refine l_stcN C0 (i := 3) (by omega) dL_step_462 ?_
            refine j_aload_n C0 dL_step_463 rfl ?_
            refine j_iload C0 dL_step_464 rfl ?_
            refine j_aload_n C0 dL_step_466 rfl ?_
            refine j_bipush C0 (v := 50) dL_step_467 (by decide) ?_
            refine j_iload C0 dL_step_469 rfl ?_
            refine j_iadd C0 dL_step_471 ?_
            refine j_top (nI (50 + k)) (nI_add 50 k) ?_
            refine l_ldpN C0 (i := 50 + k) (by omega) dL_step_472 (v := nI ((t + 1) + (b % 20))) up_s ?_
            refine j_callVv C0 (lv_kx (z := z) (ac := ac) (ap := ap) (cf := (upd cf 3 (nI ((N 2) + 1)))) (pf := (upd pf (50 + k) (nI ((t + 1) + (b % 20))))) e1 e2 (k_X6_order hsl (A := AC z ac ap) (E := EC (AC z ac ap) tE mi) (fun U h => h) ad F G N Q (nI k) (nI ((t + 1) + (b % 20))) (by have := hL.1.n2; omega))) mv_X6_order wm_L_37 (lv_recv C0) rfl rfl ⟨Nat.le_of_ble_eq_true rfl, Nat.le_of_ble_eq_true rfl⟩ (Nat.le_of_ble_eq_true rfl) ⟨by show _ ≤ (3900 : Nat); omega, by show _ ≤ (33000 : Nat); omega⟩ dL_step_473 ?_
            generalize hu G 12 (sX6_order F G N Q (nI k) (nI ((t + 1) + (b % 20)))).2.2 = G1 at e3 ⊢
            generalize hu N 2 (sX6_order F G N Q (nI k) (nI ((t + 1) + (b % 20)))).1 = N1 at e3 ⊢
            generalize hu Q 0 (sX6_order F G N Q (nI k) (nI ((t + 1) + (b % 20)))).2.1 = Q1 at e3 ⊢
            refine j_aload_n C0 dL_step_476 rfl ?_
            refine j_iconst C0 (v := 3) dL_step_477 (by decide) ?_
            refine l_ldcN C0 (i := 3) (by omega) dL_step_478 (v := nI (N 2 + 1)) up_s ?_
            refine j_icmp_ne C0 495 dL_step_479 (by decide) (fun z9 => absurd rfl z9) (fun _ => ?_)
            refine j_aload_n C0 dL_step_482 rfl ?_
            refine j_aload_n C0 dL_step_483 rfl ?_
            refine j_aload_n C0 dL_step_484 rfl ?_
            refine j_callSv C0 (k_L_areOrders hsl F G1 N1 Q1 (upd cf 3 (nI ((N 2) + 1))) (upd pf (50 + k) (nI ((t + 1) + (b % 20)))) e3) ms_L_areOrders wm_L_41 rfl rfl ⟨Nat.le_of_ble_eq_true rfl, Nat.le_of_ble_eq_true rfl⟩ (Nat.le_of_ble_eq_true rfl) ⟨by show _ ≤ (3900 : Nat); omega, by show _ ≤ (33000 : Nat); omega⟩ dL_step_485 ?_
            refine j_if_eq C0 495 dL_step_488 (by decide) (fun z9 => absurd z9 (by decide)) (fun _ => ?_)
            refine j_iconst C0 (v := 1) dL_step_491 (by decide) ?_
            refine j_goto C0 496 dL_step_492 (by decide) ?_
            refine j_widen (k := 3900) (n := 33000) (by omega) (by omega) ?_
            exact j_zretE C0 rfl rfl (by decide) dL_step_496 (lg_of e3)
          ·
            refine j_aload_n C0 dL_step_422 rfl ?_
            refine j_callVv C0 (lv_kx (z := z) (ac := ac) (ap := ap) (cf := cf) (pf := pf) rfl rfl (k_X6_moves hsl (A := AC z ac ap) (E := EC (AC z ac ap) tE mi) (fun U h => h) ad F G N Q  )) mv_X6_moves wm_L_29 (lv_recv C0) rfl rfl ⟨Nat.le_of_ble_eq_true rfl, Nat.le_of_ble_eq_true rfl⟩ (Nat.le_of_ble_eq_true rfl) ⟨by show _ ≤ (3900 : Nat); omega, by show _ ≤ (33000 : Nat); omega⟩ dL_step_423 ?_
            refine j_aload_n C0 dL_step_426 rfl ?_
            refine j_iconst C0 (v := 2) dL_step_427 (by decide) ?_
            refine l_ldcN C0 (i := 2) (by omega) dL_step_428 (v := nI (N 1)) hL.2.2.2.2.1 ?_
            refine j_icmp_ne C0 436 dL_step_429 (by decide) (fun z9 => absurd rfl z9) (fun _ => ?_)
            refine j_iconst C0 (v := 1) dL_step_432 (by decide) ?_
            refine j_goto C0 437 dL_step_433 (by decide) ?_
            refine j_widen (k := 3900) (n := 33000) (by omega) (by omega) ?_
            exact j_zretE C0 rfl rfl (by decide) dL_step_437 (lg_of hL)
set_option maxRecDepth 100000 in
set_option maxHeartbeats 4000000 in
theorem ls_497 {p : Program} {l : Launch} {e : Env} {s : State} {m : MethodId} {args : Array Value} {below : List Frame} {meth : Method} {c : Code} (hsl : l.stackTraces = false) {D : va_G} {Y : Nat → ClassId} {z tE mi ac ap : Nat} {ad : Nat → Nat} (C0 : CX p l s m args meth c RL cL_step 21 (some .boolean) D Y (fun q => z ≤ q) (EC (fun q => z ≤ q) tE mi)) {t : Nat} (F : Nat → Int32) (G : Nat → Nat → Int32) (N : Nat → Nat) (Q : Nat → Nat → Nat) (cf pf : Nat → Int32) (hL : zL t F G N Q cf pf) (a b k w : Nat) (ha : a < 2 ^ 31) (hb : b < 2 ^ 31) (hk : 0 < N 0 → k < N 0) : J p l e { frames := 14, cells := 3900, slots := 33000, locals := 610 } s m args below meth c (fun q => z ≤ q) 21 (MQ below (KQ (fun q => z ≤ q) (LG D Y z tE ac ap ad) (some (.int 1))) args s 3900 33000 (fun q => z ≤ q)) (LV D Y z tE ac ap ad F G N Q cf pf) 0 0 497 [(0, .ref (ad 0)), (1, .ref (ac)), (2, .ref (ap)), (3, .int (nI w)), (4, .int (nI a)), (5, .int (nI b)), (6, .int (nI k))] [] := by
  have hn0 := hL.1.n0
  have hn1 := hL.1.n1
  have h10 := hL.2.1.1
  have htt := hL.1.tt.1
  have hM := hL.2.2.2.2.2.2.2.1
  refine j_aload_n C0 dL_step_497 rfl ?_
  refine j_iconst C0 (v := 1) dL_step_498 (by decide) ?_
  refine l_ldcN C0 (i := 1) (by omega) dL_step_499 (v := nI (N 0)) hL.2.2.2.1 ?_
  refine j_if_eq C0 520 dL_step_500 (by decide) (fun (q1 : nI (N 0) = 0) => ?_) (fun (q1 : ¬ (nI (N 0) = 0)) => ?_)
  ·
    refine j_aload_n C0 dL_step_520 rfl ?_
    refine j_iconst C0 (v := 1) dL_step_521 (by decide) ?_
    refine l_ldcN C0 (i := 1) (by omega) dL_step_522 (v := nI (N 0)) hL.2.2.2.1 ?_
    refine j_if_eq C0 559 dL_step_523 (by decide) (fun _ => ?_) (fun z9 => absurd q1 z9)
    refine j_iconst C0 (v := 1) dL_step_559 (by decide) ?_
    refine j_goto C0 564 dL_step_560 (by decide) ?_
    refine j_widen (k := 3900) (n := 33000) (by omega) (by omega) ?_
    exact j_zretE C0 rfl rfl (by decide) dL_step_564 (lg_of hL)
  ·
    have hk9 : k < N 0 := hk (by
      apply Classical.byContradiction
      intro z9
      have e9 : N 0 = 0 := by omega
      exact q1 (by rw [e9]; rfl))
    refine j_aload_n C0 dL_step_503 rfl ?_
    refine j_bipush C0 (v := 50) dL_step_504 (by decide) ?_
    refine j_iload C0 dL_step_506 rfl ?_
    refine j_iadd C0 dL_step_508 ?_
    refine j_top (nI (50 + k)) (nI_add 50 k) ?_
    refine l_ldpN C0 (i := 50 + k) (by omega) dL_step_509 (v := pf (50 + k)) rfl ?_
    refine j_if_eq C0 520 dL_step_510 (by decide) (fun (q2 : pf (50 + k) = 0) => ?_) (fun (q2 : ¬ (pf (50 + k) = 0)) => ?_)
    ·
      refine j_aload_n C0 dL_step_520 rfl ?_
      refine j_iconst C0 (v := 1) dL_step_521 (by decide) ?_
      refine l_ldcN C0 (i := 1) (by omega) dL_step_522 (v := nI (N 0)) hL.2.2.2.1 ?_
      refine j_if_eq C0 559 dL_step_523 (by decide) (fun z9 => absurd z9 q1) (fun _ => ?_)
      refine j_aload_n C0 dL_step_526 rfl ?_
      refine j_iload C0 dL_step_527 rfl ?_
      refine j_callVv C0 (lv_kx (z := z) (ac := ac) (ap := ap) (cf := cf) (pf := pf) (show eX6_queue F G N Q (nI k) = 0 ∧ vX6_queue F G N Q (nI k) = vX6_queue F G N Q (nI k) from ⟨(zv_queue hL.1 hk9).1, rfl⟩).1 (show eX6_queue F G N Q (nI k) = 0 ∧ vX6_queue F G N Q (nI k) = vX6_queue F G N Q (nI k) from ⟨(zv_queue hL.1 hk9).1, rfl⟩).2 (k_X6_queue hsl (A := AC z ac ap) (E := EC (AC z ac ap) tE mi) (fun U h => h) ad F G N Q (nI k) )) mv_X6_queue wm_L_45 (lv_recv C0) rfl rfl ⟨Nat.le_of_ble_eq_true rfl, Nat.le_of_ble_eq_true rfl⟩ (Nat.le_of_ble_eq_true rfl) ⟨by show _ ≤ (3900 : Nat); omega, by show _ ≤ (33000 : Nat); omega⟩ dL_step_529 ?_
      refine j_iconst C0 (v := -1) dL_step_532 (by decide) ?_
      refine j_icmp_ne C0 540 dL_step_533 (by decide) (fun z9 => absurd (zq_none hL hk9 q2) z9) (fun _ => ?_)
      refine j_iconst C0 (v := 1) dL_step_536 (by decide) ?_
      refine j_goto C0 541 dL_step_537 (by decide) ?_
      refine j_aload_n C0 dL_step_541 rfl ?_
      refine j_bipush C0 (v := 50) dL_step_542 (by decide) ?_
      refine j_iload C0 dL_step_544 rfl ?_
      refine j_iadd C0 dL_step_546 ?_
      refine j_top (nI (50 + k)) (nI_add 50 k) ?_
      refine l_ldpN C0 (i := 50 + k) (by omega) dL_step_547 (v := pf (50 + k)) rfl ?_
      refine j_if_ne C0 555 dL_step_548 (by decide) (fun z9 => absurd q2 z9) (fun _ => ?_)
      refine j_iconst C0 (v := 1) dL_step_551 (by decide) ?_
      refine j_goto C0 556 dL_step_552 (by decide) ?_
      refine j_icmp_ne C0 563 dL_step_556 (by decide) (fun z9 => absurd (by decide) z9) (fun _ => ?_)
      refine j_iconst C0 (v := 1) dL_step_559 (by decide) ?_
      refine j_goto C0 564 dL_step_560 (by decide) ?_
      refine j_widen (k := 3900) (n := 33000) (by omega) (by omega) ?_
      exact j_zretE C0 rfl rfl (by decide) dL_step_564 (lg_of hL)
    ·
      refine j_iload C0 dL_step_513 rfl ?_
      refine j_iconst C0 (v := 3) dL_step_515 (by decide) ?_
      refine j_irem C0 dL_step_516 (by decide) ?_
      refine j_top (nI (b % 3)) (pk_rem (a := b) (d := 3) (by omega) (by first | decide | omega) (by first | decide | omega)) ?_
      refine j_if_le C0 565 dL_step_517 (by decide) (fun (q3 : nI (b % 3) ≤ 0) => ?_) (fun (q3 : ¬ (nI (b % 3) ≤ 0)) => ?_)
      ·
        obtain ⟨e1, e2, e3⟩ := z_Lcancel hL (k := k) hk9 q2
        refine j_aload_n C0 dL_step_565 rfl ?_
        refine j_bipush C0 (v := 50) dL_step_566 (by decide) ?_
        refine j_iload C0 dL_step_568 rfl ?_
        refine j_iadd C0 dL_step_570 ?_
        refine j_top (nI (50 + k)) (nI_add 50 k) ?_
        refine l_ldpN C0 (i := 50 + k) (by omega) dL_step_571 (v := pf (50 + k)) rfl ?_
        refine j_istore C0 (L' := [(0, .ref (ad 0)), (1, .ref (ac)), (2, .ref (ap)), (3, .int (nI w)), (4, .int (nI a)), (5, .int (nI b)), (6, .int (nI k)), (13, .int (pf (50 + k)))]) dL_step_572 (by decide) rfl ?_
        refine j_aload_n C0 dL_step_574 rfl ?_
        refine j_bipush C0 (v := 50) dL_step_575 (by decide) ?_
        refine j_iload C0 dL_step_577 rfl ?_
        refine j_iadd C0 dL_step_579 ?_
        refine j_top (nI (50 + k)) (nI_add 50 k) ?_
        refine j_iconst C0 (v := 0) dL_step_580 (by decide) ?_
        refine l_stpN C0 (i := 50 + k) (by omega) dL_step_581 ?_
        refine j_aload_n C0 dL_step_582 rfl ?_
        refine j_iconst C0 (v := 3) dL_step_583 (by decide) ?_
        refine j_dup2 C0 dL_step_584 rfl rfl ?_
        refine l_ldcN C0 (i := 3) (by omega) dL_step_585 (v := nI (N 2)) hL.2.2.2.2.2.1 ?_
        refine j_iconst C0 (v := 1) dL_step_586 (by decide) ?_
        refine j_isub C0 dL_step_587 ?_
        refine l_stcN C0 (i := 3) (by omega) dL_step_588 ?_
        refine j_aload_n C0 dL_step_589 rfl ?_
        refine j_iload C0 dL_step_590 rfl ?_
        refine j_callVv C0 (lv_kx (z := z) (ac := ac) (ap := ap) (cf := (upd cf 3 ((nI (N 2) - (1 : Int32))))) (pf := (upd pf (50 + k) ((0 : Int32)))) e1 e2 (k_X6_cancel hsl (A := AC z ac ap) (E := EC (AC z ac ap) tE mi) (fun U h => h) ad F G N Q (nI k) )) mv_X6_cancel wm_L_48 (lv_recv C0) rfl rfl ⟨Nat.le_of_ble_eq_true rfl, Nat.le_of_ble_eq_true rfl⟩ (Nat.le_of_ble_eq_true rfl) ⟨by show _ ≤ (3900 : Nat); omega, by show _ ≤ (33000 : Nat); omega⟩ dL_step_592 ?_
        have hk1 : k < hu N 2 (sX6_cancel F G N Q (nI k)).1 0 := hk9
        generalize hu G 12 (sX6_cancel F G N Q (nI k)).2.2 = G1 at e3 ⊢
        generalize hu N 2 (sX6_cancel F G N Q (nI k)).1 = N1 at e3 hk1 ⊢
        generalize hu Q 0 (sX6_cancel F G N Q (nI k)).2.1 = Q1 at e3 ⊢
        refine j_iload C0 dL_step_595 rfl ?_
        refine j_icmp_ne C0 614 dL_step_597 (by decide) (fun z9 => absurd rfl z9) (fun _ => ?_)
        refine j_aload_n C0 dL_step_600 rfl ?_
        refine j_iload C0 dL_step_601 rfl ?_
        refine j_callVv C0 (lv_kx (z := z) (ac := ac) (ap := ap) (cf := (upd cf 3 ((nI (N 2) - (1 : Int32))))) (pf := (upd pf (50 + k) ((0 : Int32)))) (show eX6_queue F G1 N1 Q1 (nI k) = 0 ∧ vX6_queue F G1 N1 Q1 (nI k) = -1 from ⟨(zv_queue e3.1 hk1).1, zq_none e3 hk1 up_s⟩).1 (show eX6_queue F G1 N1 Q1 (nI k) = 0 ∧ vX6_queue F G1 N1 Q1 (nI k) = -1 from ⟨(zv_queue e3.1 hk1).1, zq_none e3 hk1 up_s⟩).2 (k_X6_queue hsl (A := AC z ac ap) (E := EC (AC z ac ap) tE mi) (fun U h => h) ad F G1 N1 Q1 (nI k) )) mv_X6_queue wm_L_45 (lv_recv C0) rfl rfl ⟨Nat.le_of_ble_eq_true rfl, Nat.le_of_ble_eq_true rfl⟩ (Nat.le_of_ble_eq_true rfl) ⟨by show _ ≤ (3900 : Nat); omega, by show _ ≤ (33000 : Nat); omega⟩ dL_step_603 ?_
        refine j_iconst C0 (v := -1) dL_step_606 (by decide) ?_
        refine j_icmp_ne C0 614 dL_step_607 (by decide) (fun z9 => absurd (by decide) z9) (fun _ => ?_)
        refine j_iconst C0 (v := 1) dL_step_610 (by decide) ?_
        refine j_goto C0 615 dL_step_611 (by decide) ?_
        refine j_widen (k := 3900) (n := 33000) (by omega) (by omega) ?_
        exact j_zretE C0 rfl rfl (by decide) dL_step_615 (lg_of e3)
      ·
        refine j_aload_n C0 dL_step_520 rfl ?_
        refine j_iconst C0 (v := 1) dL_step_521 (by decide) ?_
        refine l_ldcN C0 (i := 1) (by omega) dL_step_522 (v := nI (N 0)) hL.2.2.2.1 ?_
        refine j_if_eq C0 559 dL_step_523 (by decide) (fun z9 => absurd z9 q1) (fun _ => ?_)
        refine j_aload_n C0 dL_step_526 rfl ?_
        refine j_iload C0 dL_step_527 rfl ?_
        refine j_callVv C0 (lv_kx (z := z) (ac := ac) (ap := ap) (cf := cf) (pf := pf) (show eX6_queue F G N Q (nI k) = 0 ∧ vX6_queue F G N Q (nI k) = vX6_queue F G N Q (nI k) from ⟨(zv_queue hL.1 hk9).1, rfl⟩).1 (show eX6_queue F G N Q (nI k) = 0 ∧ vX6_queue F G N Q (nI k) = vX6_queue F G N Q (nI k) from ⟨(zv_queue hL.1 hk9).1, rfl⟩).2 (k_X6_queue hsl (A := AC z ac ap) (E := EC (AC z ac ap) tE mi) (fun U h => h) ad F G N Q (nI k) )) mv_X6_queue wm_L_45 (lv_recv C0) rfl rfl ⟨Nat.le_of_ble_eq_true rfl, Nat.le_of_ble_eq_true rfl⟩ (Nat.le_of_ble_eq_true rfl) ⟨by show _ ≤ (3900 : Nat); omega, by show _ ≤ (33000 : Nat); omega⟩ dL_step_529 ?_
        refine j_iconst C0 (v := -1) dL_step_532 (by decide) ?_
        refine j_icmp_ne C0 540 dL_step_533 (by decide) (fun _ => ?_) (fun z9 => absurd z9 (by rw [zq_some hL hk9 q2]; exact z_m1 (Nat.lt_of_le_of_lt zC_le (by omega))))
        refine j_iconst C0 (v := 0) dL_step_540 (by decide) ?_
        refine j_aload_n C0 dL_step_541 rfl ?_
        refine j_bipush C0 (v := 50) dL_step_542 (by decide) ?_
        refine j_iload C0 dL_step_544 rfl ?_
        refine j_iadd C0 dL_step_546 ?_
        refine j_top (nI (50 + k)) (nI_add 50 k) ?_
        refine l_ldpN C0 (i := 50 + k) (by omega) dL_step_547 (v := pf (50 + k)) rfl ?_
        refine j_if_ne C0 555 dL_step_548 (by decide) (fun _ => ?_) (fun z9 => absurd z9 q2)
        refine j_iconst C0 (v := 0) dL_step_555 (by decide) ?_
        refine j_icmp_ne C0 563 dL_step_556 (by decide) (fun z9 => absurd (by decide) z9) (fun _ => ?_)
        refine j_iconst C0 (v := 1) dL_step_559 (by decide) ?_
        refine j_goto C0 564 dL_step_560 (by decide) ?_
        refine j_widen (k := 3900) (n := 33000) (by omega) (by omega) ?_
        exact j_zretE C0 rfl rfl (by decide) dL_step_564 (lg_of hL)
end
