section
set_option maxRecDepth 100000 in
set_option maxHeartbeats 4000000 in
theorem k_L_ships {l : Launch} (hsl : l.stackTraces = false) {D : va_G} {Y : Nat → ClassId} {z tE mi ac ap : Nat} {ad : Nat → Nat} {t : Nat} (F : Nat → Int32) (G : Nat → Nat → Int32) (N : Nat → Nat) (Q : Nat → Nat → Nat) (cf pf : Nat → Int32) (hL : zL t F G N Q cf pf) (h9 : N 0 < 10) (a b : Nat) (ha : a < 2 ^ 31) (hb : b < 2 ^ 31) : KM l yL_ships cL_ships 6 (some .boolean) D Y (fun q => z ≤ q) (EC (fun q => z ≤ q) tE mi) 10 300 16 348 [.ref (ad 0), .ref (ac), .ref (ap), .int (nI a), .int (nI b)] (LV D Y z tE ac ap ad F G N Q cf pf) (some (.int 1)) (LG D Y z tE ac ap ad) := by
  refine KM_of RL [(0, .ref (ad 0)), (1, .ref (ac)), (2, .ref (ap)), (3, .int (nI a)), (4, .int (nI b))] rfl (by decide) hsl (Nat.le_of_ble_eq_true rfl) rfl (lok_of rfl rfl) ?_
  intro p e s m args below meth c C0
  refine j_aload_n C0 dL_ships_0 rfl ?_
  refine j_iconst C0 (v := 1) dL_ships_1 (by decide) ?_
  refine l_ldcN C0 (i := 1) (by omega) dL_ships_2 (v := nI (N 0)) hL.2.2.2.1 ?_
  refine j_istore C0 (L' := [(0, .ref (ad 0)), (1, .ref (ac)), (2, .ref (ap)), (3, .int (nI a)), (4, .int (nI b)), (5, .int (nI (N 0)))]) dL_ships_3 (by decide) rfl ?_
  refine j_aload_n C0 dL_ships_5 rfl ?_
  refine j_iload C0 dL_ships_6 rfl ?_
  refine j_iconst C0 (v := 1) dL_ships_8 (by decide) ?_
  refine j_iload_n C0 dL_ships_9 rfl ?_
  refine j_iconst C0 (v := 4) dL_ships_10 (by decide) ?_
  refine j_irem C0 dL_ships_11 (by decide) ?_
  refine j_top (nI (a % 4)) (pk_rem (a := a) (d := 4) (by omega) (by first | decide | omega) (by first | decide | omega)) ?_
  refine j_iadd C0 dL_ships_12 ?_
  refine j_top (nI (1 + (a % 4))) (nI_add 1 (a % 4)) ?_
  refine l_stpN C0 (i := N 0) (by omega) dL_ships_13 ?_
  refine j_aload_n C0 dL_ships_14 rfl ?_
  refine j_bipush C0 (v := 10) dL_ships_15 (by decide) ?_
  refine j_iload C0 dL_ships_17 rfl ?_
  refine j_iadd C0 dL_ships_19 ?_
  refine j_top (nI (10 + (N 0))) (nI_add 10 (N 0)) ?_
  refine j_bipush C0 (v := 10) dL_ships_20 (by decide) ?_
  refine j_iload C0 dL_ships_22 rfl ?_
  refine j_bipush C0 (v := 100) dL_ships_24 (by decide) ?_
  refine j_irem C0 dL_ships_26 (by decide) ?_
  refine j_top (nI (b % 100)) (pk_rem (a := b) (d := 100) (by omega) (by first | decide | omega) (by first | decide | omega)) ?_
  refine j_iadd C0 dL_ships_27 ?_
  refine j_top (nI (10 + (b % 100))) (nI_add 10 (b % 100)) ?_
  refine l_stpN C0 (i := 10 + (N 0)) (by omega) dL_ships_28 ?_
  refine j_aload_n C0 dL_ships_29 rfl ?_
  refine j_bipush C0 (v := 20) dL_ships_30 (by decide) ?_
  refine j_iload C0 dL_ships_32 rfl ?_
  refine j_iadd C0 dL_ships_34 ?_
  refine j_top (nI (20 + (N 0))) (nI_add 20 (N 0)) ?_
  refine j_iload_n C0 dL_ships_35 rfl ?_
  refine j_iconst C0 (v := 4) dL_ships_36 (by decide) ?_
  refine j_idiv C0 dL_ships_37 (by decide) ?_
  refine j_top (nI (a / 4)) (pk_div (a := a) (d := 4) (by omega) (by first | decide | omega) (by first | decide | omega)) ?_
  refine j_iconst C0 (v := 4) dL_ships_38 (by decide) ?_
  refine j_irem C0 dL_ships_39 (by decide) ?_
  refine j_top (nI ((a / 4) % 4)) (pk_rem (a := a / 4) (d := 4) (by omega) (by first | decide | omega) (by first | decide | omega)) ?_
  refine l_stpN C0 (i := 20 + (N 0)) (by omega) dL_ships_40 ?_
  refine j_aload_n C0 dL_ships_41 rfl ?_
  refine j_bipush C0 (v := 30) dL_ships_42 (by decide) ?_
  refine j_iload C0 dL_ships_44 rfl ?_
  refine j_iadd C0 dL_ships_46 ?_
  refine j_top (nI (30 + (N 0))) (nI_add 30 (N 0)) ?_
  refine j_iload C0 dL_ships_47 rfl ?_
  refine j_bipush C0 (v := 100) dL_ships_49 (by decide) ?_
  refine j_idiv C0 dL_ships_51 (by decide) ?_
  refine j_top (nI (b / 100)) (pk_div (a := b) (d := 100) (by omega) (by first | decide | omega) (by first | decide | omega)) ?_
  refine j_bipush C0 (v := 6) dL_ships_52 (by decide) ?_
  refine j_irem C0 dL_ships_54 (by decide) ?_
  refine j_top (nI ((b / 100) % 6)) (pk_rem (a := b / 100) (d := 6) (by omega) (by first | decide | omega) (by first | decide | omega)) ?_
  refine l_stpN C0 (i := 30 + (N 0)) (by omega) dL_ships_55 ?_
  refine j_aload_n C0 dL_ships_56 rfl ?_
  refine j_bipush C0 (v := 40) dL_ships_57 (by decide) ?_
  refine j_iload C0 dL_ships_59 rfl ?_
  refine j_iadd C0 dL_ships_61 ?_
  refine j_top (nI (40 + (N 0))) (nI_add 40 (N 0)) ?_
  refine j_iconst C0 (v := 0) dL_ships_62 (by decide) ?_
  refine l_stpN C0 (i := 40 + (N 0)) (by omega) dL_ships_63 ?_
  generalize ep5 : (upd (upd (upd (upd (upd pf (N 0) (nI (1 + a % 4))) (10 + N 0) (nI (10 + b % 100))) (20 + N 0) (nI (a / 4 % 4))) (30 + N 0) (nI (b / 100 % 6))) (40 + N 0) (0 : Int32)) = p5
  have r1 : p5 (10 + N 0) = nI (10 + b % 100) := by
    rw [← ep5]
    rw [up_n (by omega)]
    rw [up_n (by omega)]
    rw [up_n (by omega)]
    exact up_s
  have r2 : p5 (20 + N 0) = nI (a / 4 % 4) := by
    rw [← ep5]
    rw [up_n (by omega)]
    rw [up_n (by omega)]
    exact up_s
  have r3 : p5 (30 + N 0) = nI (b / 100 % 6) := by
    rw [← ep5]
    rw [up_n (by omega)]
    exact up_s
  have r4 : p5 (40 + N 0) = 0 := by
    rw [← ep5]
    exact up_s
  have r0 : p5 (N 0) = nI (1 + a % 4) := by
    rw [← ep5, up_n (by omega), up_n (by omega), up_n (by omega), up_n (by omega)]
    exact up_s
  have rn : ∀ i, ¬ i = N 0 → ¬ i = 10 + N 0 → ¬ i = 20 + N 0 → ¬ i = 30 + N 0 → ¬ i = 40 + N 0 → p5 i = pf i := fun i z0 z1 z2 z3 z4 => by
    rw [← ep5, up_n z4, up_n z3, up_n z2, up_n z1, up_n z0]
  refine j_aload_n C0 dL_ships_64 rfl ?_
  refine j_iconst C0 (v := 1) dL_ships_65 (by decide) ?_
  refine j_dup2 C0 dL_ships_66 rfl rfl ?_
  refine l_ldcN C0 (i := 1) (by omega) dL_ships_67 (v := nI (N 0)) hL.2.2.2.1 ?_
  refine j_iconst C0 (v := 1) dL_ships_68 (by decide) ?_
  refine j_iadd C0 dL_ships_69 ?_
  refine j_top (nI ((N 0) + 1)) (nI_add (N 0) 1) ?_
  refine l_stcN C0 (i := 1) (by omega) dL_ships_70 ?_
  generalize ec1 : upd cf 1 (nI (N 0 + 1)) = c1
  have hc1 : c1 1 = nI (N 0 + 1) := by rw [← ec1, up_s]
  have hc2 : ∀ i, ¬ i = 1 → c1 i = cf i := fun i z => by rw [← ec1, up_n z]
  obtain ⟨k1, k2, k3, k4, k5, k6, k7⟩ := z_Lship hL h9 (sz := 1 + a % 4) (dr := 10 + b % 100) (ct := a / 4 % 4) (bt := b / 100 % 6) (by omega) (by omega) (by omega) (by omega) (by omega) (by omega) hc1 hc2 r0 r1 r2 r3 r4 (fun k hk hn => ⟨rn _ hn (by omega) (by omega) (by omega) (by omega), rn _ (by omega) (by omega) (by omega) (by omega) (by omega), rn _ (by omega) (by omega) (by omega) (by omega) (by omega), rn _ (by omega) (by omega) (by omega) (by omega) (by omega), rn _ (by omega) (by omega) (by omega) (by omega) (by omega)⟩) (fun k hk => rn _ (by omega) (by omega) (by omega) (by omega) (by omega))
  refine j_aload_n C0 dL_ships_71 rfl ?_
  refine j_aload_n C0 dL_ships_72 rfl ?_
  refine j_iload C0 dL_ships_73 rfl ?_
  refine l_ldpN C0 (i := N 0) (by omega) dL_ships_75 (v := nI (1 + a % 4)) r0 ?_
  refine j_aload_n C0 dL_ships_76 rfl ?_
  refine j_bipush C0 (v := 10) dL_ships_77 (by decide) ?_
  refine j_iload C0 dL_ships_79 rfl ?_
  refine j_iadd C0 dL_ships_81 ?_
  refine j_top (nI (10 + (N 0))) (nI_add 10 (N 0)) ?_
  refine l_ldpN C0 (i := 10 + (N 0)) (by omega) dL_ships_82 (v := nI (10 + b % 100)) r1 ?_
  refine j_aload_n C0 dL_ships_83 rfl ?_
  refine j_bipush C0 (v := 20) dL_ships_84 (by decide) ?_
  refine j_iload C0 dL_ships_86 rfl ?_
  refine j_iadd C0 dL_ships_88 ?_
  refine j_top (nI (20 + (N 0))) (nI_add 20 (N 0)) ?_
  refine l_ldpN C0 (i := 20 + (N 0)) (by omega) dL_ships_89 (v := nI (a / 4 % 4)) r2 ?_
  refine j_aload_n C0 dL_ships_90 rfl ?_
  refine j_bipush C0 (v := 30) dL_ships_91 (by decide) ?_
  refine j_iload C0 dL_ships_93 rfl ?_
  refine j_iadd C0 dL_ships_95 ?_
  refine j_top (nI (30 + (N 0))) (nI_add 30 (N 0)) ?_
  refine l_ldpN C0 (i := 30 + (N 0)) (by omega) dL_ships_96 (v := nI (b / 100 % 6)) r3 ?_
  refine j_callVv (rest := []) (As := [.int (nI (1 + a % 4)), .int (nI (10 + b % 100)), .int (nI (a / 4 % 4)), .int (nI (b / 100 % 6))]) C0 (lv_kx (z := z) (ac := ac) (ap := ap) (cf := c1) (pf := p5) k1 k2 (k_X6_ship hsl (A := AC z ac ap) (E := EC (AC z ac ap) tE mi) (fun U h => h) ad F G N Q (nI (1 + a % 4)) (nI (10 + b % 100)) (nI (a / 4 % 4)) (nI (b / 100 % 6)))) mv_X6_ship wm_L_76 (lv_recv C0) rfl rfl ⟨Nat.le_of_ble_eq_true rfl, Nat.le_of_ble_eq_true rfl⟩ (Nat.le_of_ble_eq_true rfl) ⟨by show _ ≤ (16 : Nat); omega, by show _ ≤ (348 : Nat); omega⟩ dL_ships_97 ?_
  show J p l e _ s m args below meth c (fun q => z ≤ q) 6 _ (LV D Y z tE ac ap ad F (sG F G N Q (nI (1 + a % 4)) (nI (10 + b % 100)) (nI (a / 4 % 4)) (nI (b / 100 % 6))) (sN F G N Q (nI (1 + a % 4)) (nI (10 + b % 100)) (nI (a / 4 % 4)) (nI (b / 100 % 6))) Q c1 p5) (0 + 8) (0 + 300) 100 [(0, .ref (ad 0)), (1, .ref (ac)), (2, .ref (ap)), (3, .int (nI a)), (4, .int (nI b)), (5, .int (nI (N 0)))] [.int (nI (N 0))]
  generalize sG F G N Q (nI (1 + a % 4)) (nI (10 + b % 100)) (nI (a / 4 % 4)) (nI (b / 100 % 6)) = G1 at k3 k5 k6 k7 ⊢
  generalize sN F G N Q (nI (1 + a % 4)) (nI (10 + b % 100)) (nI (a / 4 % 4)) (nI (b / 100 % 6)) = N1 at k3 k4 ⊢
  have hn1 : N1 0 ≤ 30 := k3.1.n0
  have hkn : N 0 < N1 0 := by omega
  refine j_iload C0 dL_ships_100 rfl ?_
  refine j_icmp_ne C0 137 dL_ships_102 (by decide) (fun z9 => absurd rfl z9) (fun _ => ?_)
  refine j_aload_n C0 dL_ships_105 rfl ?_
  refine j_iload C0 dL_ships_106 rfl ?_
  refine j_callVv C0 (lv_kx (z := z) (ac := ac) (ap := ap) (cf := c1) (pf := p5) (zv_state (F := F) (G := G1) (N := N1) (Q := Q) (k := N 0) hkn hn1).1 ((zv_state (F := F) (G := G1) (N := N1) (Q := Q) (k := N 0) hkn hn1).2.trans k5) (k_X6_state hsl (A := AC z ac ap) (E := EC (AC z ac ap) tE mi) (fun U h => h) ad F G1 N1 Q (nI (N 0)) )) mv_X6_state wm_L_80 (lv_recv C0) rfl rfl ⟨Nat.le_of_ble_eq_true rfl, Nat.le_of_ble_eq_true rfl⟩ (Nat.le_of_ble_eq_true rfl) ⟨by show _ ≤ (16 : Nat); omega, by show _ ≤ (348 : Nat); omega⟩ dL_ships_108 ?_
  refine j_if_ne C0 137 dL_ships_111 (by decide) (fun z9 => absurd (by decide) z9) (fun _ => ?_)
  refine j_aload_n C0 dL_ships_114 rfl ?_
  refine j_iload C0 dL_ships_115 rfl ?_
  refine j_callVv C0 (lv_kx (z := z) (ac := ac) (ap := ap) (cf := c1) (pf := p5) (zv_paid (F := F) (G := G1) (N := N1) (Q := Q) (k := N 0) hkn hn1).1 ((zv_paid (F := F) (G := G1) (N := N1) (Q := Q) (k := N 0) hkn hn1).2.trans k6) (k_X6_paid hsl (A := AC z ac ap) (E := EC (AC z ac ap) tE mi) (fun U h => h) ad F G1 N1 Q (nI (N 0)) )) mv_X6_paid wm_L_67 (lv_recv C0) rfl rfl ⟨Nat.le_of_ble_eq_true rfl, Nat.le_of_ble_eq_true rfl⟩ (Nat.le_of_ble_eq_true rfl) ⟨by show _ ≤ (16 : Nat); omega, by show _ ≤ (348 : Nat); omega⟩ dL_ships_117 ?_
  refine j_if_ne C0 137 dL_ships_120 (by decide) (fun z9 => absurd (by decide) z9) (fun _ => ?_)
  refine j_aload_n C0 dL_ships_123 rfl ?_
  refine j_iload C0 dL_ships_124 rfl ?_
  refine j_callVv C0 (lv_kx (z := z) (ac := ac) (ap := ap) (cf := c1) (pf := p5) (show eX6_queue F G1 N1 Q (nI (N 0)) = 0 ∧ vX6_queue F G1 N1 Q (nI (N 0)) = -1 from ⟨(zv_queue k3.1 hkn).1, (zv_queue k3.1 hkn).2.1 k7⟩).1 (show eX6_queue F G1 N1 Q (nI (N 0)) = 0 ∧ vX6_queue F G1 N1 Q (nI (N 0)) = -1 from ⟨(zv_queue k3.1 hkn).1, (zv_queue k3.1 hkn).2.1 k7⟩).2 (k_X6_queue hsl (A := AC z ac ap) (E := EC (AC z ac ap) tE mi) (fun U h => h) ad F G1 N1 Q (nI (N 0)) )) mv_X6_queue wm_L_45 (lv_recv C0) rfl rfl ⟨Nat.le_of_ble_eq_true rfl, Nat.le_of_ble_eq_true rfl⟩ (Nat.le_of_ble_eq_true rfl) ⟨by show _ ≤ (16 : Nat); omega, by show _ ≤ (348 : Nat); omega⟩ dL_ships_126 ?_
  refine j_iconst C0 (v := -1) dL_ships_129 (by decide) ?_
  refine j_icmp_ne C0 137 dL_ships_130 (by decide) (fun z9 => absurd (by decide) z9) (fun _ => ?_)
  refine j_iconst C0 (v := 1) dL_ships_133 (by decide) ?_
  refine j_goto C0 138 dL_ships_134 (by decide) ?_
  refine j_widen (k := 16) (n := 348) (by omega) (by omega) ?_
  exact j_zretE C0 rfl rfl (by decide) dL_ships_138 (lg_of k3)
end
