theorem isIn_next {a : Int32} (h : ¬ vX7_isIn a (0 : Int32) (3000 : Int32) = 0) : vp_in (a + (1 : Int32)) 3160 := by
  obtain ⟨k, h1, rfl⟩ := vp_in_of (isIn_vp (n := 3001) h (by decide)) (by decide)
  rw [nI_1]
  exact vp_in_nI (by omega) (by decide)
theorem shp_in {x : Int32} (h : ct x 30) (h2 : ¬ x = (30 : Int32)) : vp_in x 30 := by
  obtain ⟨k, h1, rfl⟩ := h
  refine vp_in_nI ?_ (by decide)
  rcases Nat.lt_or_ge k 30 with q | q
  · exact q
  · exact absurd (show nI k = 30 by rw [show k = 30 by omega]; rfl) h2
theorem wind_facts {x : Int32} {a b : Int32} (hn : ct x 3000) (h1 : ¬ vX7_isIn a (x + (3 : Int32)) (3100 : Int32) = 0) (h2 : ¬ vX7_isIn b (1 : Int32) (48 : Int32) = 0) : ∃ u v : Nat, u ≤ 3100 ∧ v ≤ 48 ∧ a = nI u ∧ b = nI v := by
  obtain ⟨n, hn1, rfl⟩ := hn
  have k1 := isIn_t h1
  have k2 := isIn_t h2
  rw [show (3 : Int32) = nI 3 from rfl, nI_add] at k1
  simp only [Int32.le_iff_toInt_le] at k1 k2
  rw [nI_toInt (by omega)] at k1
  have e1 : (3100 : Int32).toInt = 3100 := by decide
  have e2 : (48 : Int32).toInt = 48 := by decide
  have e3 : (1 : Int32).toInt = 1 := by decide
  obtain ⟨u, hu, eu⟩ := vp_in_of (x := a) (n := 3101) (vp_in_iff.mpr (by omega)) (by decide)
  obtain ⟨v, hv, ev⟩ := vp_in_of (x := b) (n := 49) (vp_in_iff.mpr (by omega)) (by decide)
  exact ⟨u, v, by omega, by omega, eu, ev⟩
theorem pass_facts {x a : Int32} (hn : ct x 3000) (h1 : ¬ vX7_isIn a (1 : Int32) (100 : Int32) = 0) (h2 : x + a ≤ (3000 : Int32)) : ∃ n u : Nat, x = nI n ∧ a = nI u ∧ 1 ≤ u ∧ u ≤ 100 ∧ n + u ≤ 3000 := by
  obtain ⟨n, hn1, rfl⟩ := hn
  have k1 := isIn_t h1
  simp only [Int32.le_iff_toInt_le] at k1
  have e1 : (100 : Int32).toInt = 100 := by decide
  have e3 : (1 : Int32).toInt = 1 := by decide
  obtain ⟨u, hu, eu⟩ := vp_in_of (x := a) (n := 101) (vp_in_iff.mpr (by omega)) (by decide)
  subst eu
  rw [nI_toInt (by omega)] at k1
  rw [nI_add, show (3000 : Int32) = nI 3000 from rfl, nI_leI (by omega) (by decide)] at h2
  exact ⟨n, u, rfl, rfl, by omega, by omega, h2⟩
/-! ## table(II)I -/
def vX7_table (F : Nat → Int32) (G : Nat → Nat → Int32) (a1 : Int32) (a2 : Int32) : Int32 := (if (vX7_isIn (a1) ((0 : Int32)) ((11 : Int32))) = 0 then (0 : Int32) else (if (vX7_isIn (a2) ((0 : Int32)) ((150 : Int32))) = 0 then (0 : Int32) else (if (F 20) ≤ 0 then ((G 2) (a1).toNatClampNeg) else (0 : Int32))))
def sX7_table (F : Nat → Int32) (G : Nat → Nat → Int32) (a1 : Int32) (a2 : Int32) : (Nat → Int32) × (Nat → Nat → Int32) := (if (vX7_isIn (a1) ((0 : Int32)) ((11 : Int32))) = 0 then ((hu F 0 (1 : Int32)), G) else (if (vX7_isIn (a2) ((0 : Int32)) ((150 : Int32))) = 0 then ((hu F 0 (2 : Int32)), G) else (if (F 20) ≤ 0 then ((hu F 0 (0 : Int32)), (hu G 2 (upd (G 2) (a1).toNatClampNeg (a2)))) else ((hu F 0 (3 : Int32)), G))))
set_option maxRecDepth 100000 in
set_option maxHeartbeats 4000000 in
theorem k_X7_table {l : Launch} (hl : l.stackTraces = false) {D : va_G} {Y : Nat → ClassId} {A : Nat → Prop} {E : State → Prop} (ad : Nat → Nat) (F : Nat → Int32) (G : Nat → Nat → Int32) (a1 : Int32) (a2 : Int32) (hI : RI F G) : KM l yX7_table cX7_table 4 (some .int) D Y A E 1 22 0 0 [.ref (ad 0), .int (a1), .int (a2)] (OR D Y A ad F G) (some (.int (vX7_table F G a1 a2))) (OR D Y A ad (sX7_table F G a1 a2).1 (sX7_table F G a1 a2).2) := by
  refine KM_of RX7 [(0, .ref (ad 0)), (1, .int (a1)), (2, .int (a2))] rfl (by decide) hl (Nat.le_of_ble_eq_true rfl) rfl (lok_of rfl rfl) ?_
  intro p e s m args below meth c C0
  obtain ⟨hn, hs, hm, hb, hw, hr⟩ := id hI
  refine j_aload_n C0 dX7_table_0 rfl ?_
  refine j_iload_n C0 dX7_table_1 rfl ?_
  refine j_iconst C0 (v := 0) dX7_table_2 (by decide) ?_
  refine j_bipush C0 (v := 11) dX7_table_3 (by decide) ?_
  refine j_callSv C0 (k_X7_isIn hl (a1) ((0 : Int32)) ((11 : Int32)) ) ms_X7_isIn wm_X7_78 rfl rfl ⟨Nat.le_of_ble_eq_true rfl, Nat.le_of_ble_eq_true rfl⟩ (Nat.le_of_ble_eq_true rfl) ⟨Nat.le_refl _, Nat.le_refl _⟩ dX7_table_5 ?_
  refine j_if_ne C0 15 dX7_table_8 (by decide) (fun (q1 : ¬ ((vX7_isIn (a1) ((0 : Int32)) ((11 : Int32))) = 0)) => ?_) (fun (q1 : (vX7_isIn (a1) ((0 : Int32)) ((11 : Int32))) = 0) => ?_)
  ·
    refine j_iload_n C0 dX7_table_15 rfl ?_
    refine j_iconst C0 (v := 0) dX7_table_16 (by decide) ?_
    refine j_sipush C0 (v := 150) dX7_table_17 (by decide) ?_
    refine j_callSv C0 (k_X7_isIn hl (a2) ((0 : Int32)) ((150 : Int32)) ) ms_X7_isIn wm_X7_78 rfl rfl ⟨Nat.le_of_ble_eq_true rfl, Nat.le_of_ble_eq_true rfl⟩ (Nat.le_of_ble_eq_true rfl) ⟨Nat.le_refl _, Nat.le_refl _⟩ dX7_table_20 ?_
    refine j_if_ne C0 30 dX7_table_23 (by decide) (fun (q2 : ¬ ((vX7_isIn (a2) ((0 : Int32)) ((150 : Int32))) = 0)) => ?_) (fun (q2 : (vX7_isIn (a2) ((0 : Int32)) ((150 : Int32))) = 0) => ?_)
    ·
      refine j_aload_n C0 dX7_table_30 rfl ?_
      refine r_gf_20 C0 (v := (F 20)) dX7_table_31 rfl ?_
      refine j_if_le C0 41 dX7_table_34 (by decide) (fun (q3 : (F 20) ≤ 0) => ?_) (fun (q3 : ¬ ((F 20) ≤ 0)) => ?_)
      ·
        refine j_iconst C0 (v := 0) dX7_table_41 (by decide) ?_
        refine j_callVv C0 (k_X7_holds hl ad F G ((0 : Int32)) ) mv_X7_holds wm_X7_85 (r_recv C0) rfl rfl ⟨Nat.le_of_ble_eq_true rfl, Nat.le_of_ble_eq_true rfl⟩ (Nat.le_of_ble_eq_true rfl) ⟨Nat.le_refl _, Nat.le_refl _⟩ dX7_table_42 ?_
        refine j_top (1 : Int32) (by unfold vX7_holds; decide +kernel) ?_
        show J p l e _ s m args below meth c A 4 _ (OV D Y A ad (0 : Int32) (F 1) (F 5) (F 18) (F 19) (F 20) (G 2) (G 3) (G 4) (G 6) (G 7) (G 8) (G 9) (G 10) (G 11) (G 12) (G 13) (G 14) (G 15) (G 16) (G 17) (G 21) (G 22) (G 23) (G 24) (G 25)) 0 0 45 [(0, .ref (ad 0)), (1, .int (a1)), (2, .int (a2))] [.int ((1 : Int32))]
        refine j_if_ne C0 50 dX7_table_45 (by decide) (fun _ => ?_) (fun z => absurd z (by decide))
        refine j_aload_n C0 dX7_table_50 rfl ?_
        refine r_gf_2 C0 dX7_table_51 ?_
        refine j_iload_n C0 dX7_table_54 rfl ?_
        refine r_ld_2 C0 (v := ((G 2) (a1).toNatClampNeg)) (isIn_vp q1 (by decide)) dX7_table_55 rfl ?_
        refine j_istore_n C0 (L' := [(0, .ref (ad 0)), (1, .int (a1)), (2, .int (a2)), (3, .int (((G 2) (a1).toNatClampNeg)))]) dX7_table_56 (by decide) rfl ?_
        refine j_aload_n C0 dX7_table_57 rfl ?_
        refine r_gf_2 C0 dX7_table_58 ?_
        refine j_iload_n C0 dX7_table_61 rfl ?_
        refine j_iload_n C0 dX7_table_62 rfl ?_
        refine r_st_2 C0 (isIn_vp q1 (by decide)) dX7_table_63 ?_
        refine j_iload_n C0 dX7_table_64 rfl ?_
        exact j_iretE C0 rfl (by rw [vX7_table, if_neg q1, if_neg q2, if_pos q3]) dX7_table_65 (fun H h => by rw [sX7_table, if_neg q1, if_neg q2, if_pos q3]; exact h)
      ·
        refine j_iconst C0 (v := 3) dX7_table_37 (by decide) ?_
        refine j_goto C0 42 dX7_table_38 (by decide) ?_
        refine j_callVv C0 (k_X7_holds hl ad F G ((3 : Int32)) ) mv_X7_holds wm_X7_85 (r_recv C0) rfl rfl ⟨Nat.le_of_ble_eq_true rfl, Nat.le_of_ble_eq_true rfl⟩ (Nat.le_of_ble_eq_true rfl) ⟨Nat.le_refl _, Nat.le_refl _⟩ dX7_table_42 ?_
        refine j_top (0 : Int32) (by unfold vX7_holds; decide +kernel) ?_
        show J p l e _ s m args below meth c A 4 _ (OV D Y A ad (3 : Int32) (F 1) (F 5) (F 18) (F 19) (F 20) (G 2) (G 3) (G 4) (G 6) (G 7) (G 8) (G 9) (G 10) (G 11) (G 12) (G 13) (G 14) (G 15) (G 16) (G 17) (G 21) (G 22) (G 23) (G 24) (G 25)) 0 0 45 [(0, .ref (ad 0)), (1, .int (a1)), (2, .int (a2))] [.int ((0 : Int32))]
        refine j_if_ne C0 50 dX7_table_45 (by decide) (fun z => absurd (by decide) z) (fun _ => ?_)
        refine j_iconst C0 (v := 0) dX7_table_48 (by decide) ?_
        exact j_iretE C0 rfl (by rw [vX7_table, if_neg q1, if_neg q2, if_neg q3]) dX7_table_49 (fun H h => by rw [sX7_table, if_neg q1, if_neg q2, if_neg q3]; exact h)
    ·
      refine j_iconst C0 (v := 2) dX7_table_26 (by decide) ?_
      refine j_goto C0 42 dX7_table_27 (by decide) ?_
      refine j_callVv C0 (k_X7_holds hl ad F G ((2 : Int32)) ) mv_X7_holds wm_X7_85 (r_recv C0) rfl rfl ⟨Nat.le_of_ble_eq_true rfl, Nat.le_of_ble_eq_true rfl⟩ (Nat.le_of_ble_eq_true rfl) ⟨Nat.le_refl _, Nat.le_refl _⟩ dX7_table_42 ?_
      refine j_top (0 : Int32) (by unfold vX7_holds; decide +kernel) ?_
      show J p l e _ s m args below meth c A 4 _ (OV D Y A ad (2 : Int32) (F 1) (F 5) (F 18) (F 19) (F 20) (G 2) (G 3) (G 4) (G 6) (G 7) (G 8) (G 9) (G 10) (G 11) (G 12) (G 13) (G 14) (G 15) (G 16) (G 17) (G 21) (G 22) (G 23) (G 24) (G 25)) 0 0 45 [(0, .ref (ad 0)), (1, .int (a1)), (2, .int (a2))] [.int ((0 : Int32))]
      refine j_if_ne C0 50 dX7_table_45 (by decide) (fun z => absurd (by decide) z) (fun _ => ?_)
      refine j_iconst C0 (v := 0) dX7_table_48 (by decide) ?_
      exact j_iretE C0 rfl (by rw [vX7_table, if_neg q1, if_pos q2]) dX7_table_49 (fun H h => by rw [sX7_table, if_neg q1, if_pos q2]; exact h)
  ·
    refine j_iconst C0 (v := 1) dX7_table_11 (by decide) ?_
    refine j_goto C0 42 dX7_table_12 (by decide) ?_
    refine j_callVv C0 (k_X7_holds hl ad F G ((1 : Int32)) ) mv_X7_holds wm_X7_85 (r_recv C0) rfl rfl ⟨Nat.le_of_ble_eq_true rfl, Nat.le_of_ble_eq_true rfl⟩ (Nat.le_of_ble_eq_true rfl) ⟨Nat.le_refl _, Nat.le_refl _⟩ dX7_table_42 ?_
    refine j_top (0 : Int32) (by unfold vX7_holds; decide +kernel) ?_
    show J p l e _ s m args below meth c A 4 _ (OV D Y A ad (1 : Int32) (F 1) (F 5) (F 18) (F 19) (F 20) (G 2) (G 3) (G 4) (G 6) (G 7) (G 8) (G 9) (G 10) (G 11) (G 12) (G 13) (G 14) (G 15) (G 16) (G 17) (G 21) (G 22) (G 23) (G 24) (G 25)) 0 0 45 [(0, .ref (ad 0)), (1, .int (a1)), (2, .int (a2))] [.int ((0 : Int32))]
    refine j_if_ne C0 50 dX7_table_45 (by decide) (fun z => absurd (by decide) z) (fun _ => ?_)
    refine j_iconst C0 (v := 0) dX7_table_48 (by decide) ?_
    exact j_iretE C0 rfl (by rw [vX7_table, if_pos q1]) dX7_table_49 (fun H h => by rw [sX7_table, if_pos q1]; exact h)
/-! ## wind(III)I -/
def bX7_wind_62 (F : Nat → Int32) (G : Nat → Nat → Int32) (a1 : Int32) (a2 : Int32) (a3 : Int32) (j62 : Nat) (v62 : (Nat → Int32)) : (Nat → Int32) := ((upd v62 ((a1 + nI (j62))).toNatClampNeg (a3)))
def vX7_wind (F : Nat → Int32) (G : Nat → Nat → Int32) (a1 : Int32) (a2 : Int32) (a3 : Int32) : Int32 := (if (vX7_isIn (a1) (((F 1) + (3 : Int32))) ((3100 : Int32))) = 0 then (0 : Int32) else (if (vX7_isIn (a2) ((1 : Int32)) ((48 : Int32))) = 0 then (0 : Int32) else (if (vX7_isIn (a3) ((-40 : Int32)) ((40 : Int32))) = 0 then (0 : Int32) else ((G 3) (a1).toNatClampNeg))))
def sX7_wind (F : Nat → Int32) (G : Nat → Nat → Int32) (a1 : Int32) (a2 : Int32) (a3 : Int32) : (Nat → Int32) × (Nat → Nat → Int32) := (if (vX7_isIn (a1) (((F 1) + (3 : Int32))) ((3100 : Int32))) = 0 then ((hu F 0 (1 : Int32)), G) else (if (vX7_isIn (a2) ((1 : Int32)) ((48 : Int32))) = 0 then ((hu F 0 (1 : Int32)), G) else (if (vX7_isIn (a3) ((-40 : Int32)) ((40 : Int32))) = 0 then ((hu F 0 (1 : Int32)), G) else ((hu F 0 (0 : Int32)), (hu G 3 (nf (bX7_wind_62 F G a1 a2 a3) ((G 3)) ((a2).toNatClampNeg)))))))
set_option maxRecDepth 100000 in
set_option maxHeartbeats 4000000 in
theorem k_X7_wind {l : Launch} (hl : l.stackTraces = false) {D : va_G} {Y : Nat → ClassId} {A : Nat → Prop} {E : State → Prop} (ad : Nat → Nat) (F : Nat → Int32) (G : Nat → Nat → Int32) (a1 : Int32) (a2 : Int32) (a3 : Int32) (hI : RI F G) : KM l yX7_wind cX7_wind 6 (some .int) D Y A E 1 22 0 0 [.ref (ad 0), .int (a1), .int (a2), .int (a3)] (OR D Y A ad F G) (some (.int (vX7_wind F G a1 a2 a3))) (OR D Y A ad (sX7_wind F G a1 a2 a3).1 (sX7_wind F G a1 a2 a3).2) := by
  refine KM_of RX7 [(0, .ref (ad 0)), (1, .int (a1)), (2, .int (a2)), (3, .int (a3))] rfl (by decide) hl (Nat.le_of_ble_eq_true rfl) rfl (lok_of rfl rfl) ?_
  intro p e s m args below meth c C0
  obtain ⟨hn, hs, hm, hb, hw, hr⟩ := id hI
  refine j_aload_n C0 dX7_wind_0 rfl ?_
  refine j_iload_n C0 dX7_wind_1 rfl ?_
  refine j_aload_n C0 dX7_wind_2 rfl ?_
  refine r_gf_1 C0 (v := (F 1)) dX7_wind_3 rfl ?_
  refine j_iconst C0 (v := 3) dX7_wind_6 (by decide) ?_
  refine j_iadd C0 dX7_wind_7 ?_
  refine j_sipush C0 (v := 3100) dX7_wind_8 (by decide) ?_
  refine j_callSv C0 (k_X7_isIn hl (a1) (((F 1) + (3 : Int32))) ((3100 : Int32)) ) ms_X7_isIn wm_X7_78 rfl rfl ⟨Nat.le_of_ble_eq_true rfl, Nat.le_of_ble_eq_true rfl⟩ (Nat.le_of_ble_eq_true rfl) ⟨Nat.le_refl _, Nat.le_refl _⟩ dX7_wind_11 ?_
  refine j_if_eq C0 42 dX7_wind_14 (by decide) (fun (q1 : (vX7_isIn (a1) (((F 1) + (3 : Int32))) ((3100 : Int32))) = 0) => ?_) (fun (q1 : ¬ ((vX7_isIn (a1) (((F 1) + (3 : Int32))) ((3100 : Int32))) = 0)) => ?_)
  ·
    refine j_iconst C0 (v := 1) dX7_wind_42 (by decide) ?_
    refine j_callVv C0 (k_X7_holds hl ad F G ((1 : Int32)) ) mv_X7_holds wm_X7_85 (r_recv C0) rfl rfl ⟨Nat.le_of_ble_eq_true rfl, Nat.le_of_ble_eq_true rfl⟩ (Nat.le_of_ble_eq_true rfl) ⟨Nat.le_refl _, Nat.le_refl _⟩ dX7_wind_43 ?_
    refine j_top (0 : Int32) (by unfold vX7_holds; decide +kernel) ?_
    show J p l e _ s m args below meth c A 6 _ (OV D Y A ad (1 : Int32) (F 1) (F 5) (F 18) (F 19) (F 20) (G 2) (G 3) (G 4) (G 6) (G 7) (G 8) (G 9) (G 10) (G 11) (G 12) (G 13) (G 14) (G 15) (G 16) (G 17) (G 21) (G 22) (G 23) (G 24) (G 25)) 0 0 46 [(0, .ref (ad 0)), (1, .int (a1)), (2, .int (a2)), (3, .int (a3))] [.int ((0 : Int32))]
    refine j_if_ne C0 51 dX7_wind_46 (by decide) (fun z => absurd (by decide) z) (fun _ => ?_)
    refine j_iconst C0 (v := 0) dX7_wind_49 (by decide) ?_
    exact j_iretE C0 rfl (by rw [vX7_wind, if_pos q1]) dX7_wind_50 (fun H h => by rw [sX7_wind, if_pos q1]; exact h)
  ·
    refine j_iload_n C0 dX7_wind_17 rfl ?_
    refine j_iconst C0 (v := 1) dX7_wind_18 (by decide) ?_
    refine j_bipush C0 (v := 48) dX7_wind_19 (by decide) ?_
    refine j_callSv C0 (k_X7_isIn hl (a2) ((1 : Int32)) ((48 : Int32)) ) ms_X7_isIn wm_X7_78 rfl rfl ⟨Nat.le_of_ble_eq_true rfl, Nat.le_of_ble_eq_true rfl⟩ (Nat.le_of_ble_eq_true rfl) ⟨Nat.le_refl _, Nat.le_refl _⟩ dX7_wind_21 ?_
    refine j_if_eq C0 42 dX7_wind_24 (by decide) (fun (q3 : (vX7_isIn (a2) ((1 : Int32)) ((48 : Int32))) = 0) => ?_) (fun (q3 : ¬ ((vX7_isIn (a2) ((1 : Int32)) ((48 : Int32))) = 0)) => ?_)
    ·
      refine j_iconst C0 (v := 1) dX7_wind_42 (by decide) ?_
      refine j_callVv C0 (k_X7_holds hl ad F G ((1 : Int32)) ) mv_X7_holds wm_X7_85 (r_recv C0) rfl rfl ⟨Nat.le_of_ble_eq_true rfl, Nat.le_of_ble_eq_true rfl⟩ (Nat.le_of_ble_eq_true rfl) ⟨Nat.le_refl _, Nat.le_refl _⟩ dX7_wind_43 ?_
      refine j_top (0 : Int32) (by unfold vX7_holds; decide +kernel) ?_
      show J p l e _ s m args below meth c A 6 _ (OV D Y A ad (1 : Int32) (F 1) (F 5) (F 18) (F 19) (F 20) (G 2) (G 3) (G 4) (G 6) (G 7) (G 8) (G 9) (G 10) (G 11) (G 12) (G 13) (G 14) (G 15) (G 16) (G 17) (G 21) (G 22) (G 23) (G 24) (G 25)) 0 0 46 [(0, .ref (ad 0)), (1, .int (a1)), (2, .int (a2)), (3, .int (a3))] [.int ((0 : Int32))]
      refine j_if_ne C0 51 dX7_wind_46 (by decide) (fun z => absurd (by decide) z) (fun _ => ?_)
      refine j_iconst C0 (v := 0) dX7_wind_49 (by decide) ?_
      exact j_iretE C0 rfl (by rw [vX7_wind, if_neg q1, if_pos q3]) dX7_wind_50 (fun H h => by rw [sX7_wind, if_neg q1, if_pos q3]; exact h)
    ·
      refine j_iload_n C0 dX7_wind_27 rfl ?_
      refine j_bipush C0 (v := -40) dX7_wind_28 (by decide) ?_
      refine j_bipush C0 (v := 40) dX7_wind_30 (by decide) ?_
      refine j_callSv C0 (k_X7_isIn hl (a3) ((-40 : Int32)) ((40 : Int32)) ) ms_X7_isIn wm_X7_78 rfl rfl ⟨Nat.le_of_ble_eq_true rfl, Nat.le_of_ble_eq_true rfl⟩ (Nat.le_of_ble_eq_true rfl) ⟨Nat.le_refl _, Nat.le_refl _⟩ dX7_wind_32 ?_
      refine j_if_eq C0 42 dX7_wind_35 (by decide) (fun (q5 : (vX7_isIn (a3) ((-40 : Int32)) ((40 : Int32))) = 0) => ?_) (fun (q5 : ¬ ((vX7_isIn (a3) ((-40 : Int32)) ((40 : Int32))) = 0)) => ?_)
      ·
        refine j_iconst C0 (v := 1) dX7_wind_42 (by decide) ?_
        refine j_callVv C0 (k_X7_holds hl ad F G ((1 : Int32)) ) mv_X7_holds wm_X7_85 (r_recv C0) rfl rfl ⟨Nat.le_of_ble_eq_true rfl, Nat.le_of_ble_eq_true rfl⟩ (Nat.le_of_ble_eq_true rfl) ⟨Nat.le_refl _, Nat.le_refl _⟩ dX7_wind_43 ?_
        refine j_top (0 : Int32) (by unfold vX7_holds; decide +kernel) ?_
        show J p l e _ s m args below meth c A 6 _ (OV D Y A ad (1 : Int32) (F 1) (F 5) (F 18) (F 19) (F 20) (G 2) (G 3) (G 4) (G 6) (G 7) (G 8) (G 9) (G 10) (G 11) (G 12) (G 13) (G 14) (G 15) (G 16) (G 17) (G 21) (G 22) (G 23) (G 24) (G 25)) 0 0 46 [(0, .ref (ad 0)), (1, .int (a1)), (2, .int (a2)), (3, .int (a3))] [.int ((0 : Int32))]
        refine j_if_ne C0 51 dX7_wind_46 (by decide) (fun z => absurd (by decide) z) (fun _ => ?_)
        refine j_iconst C0 (v := 0) dX7_wind_49 (by decide) ?_
        exact j_iretE C0 rfl (by rw [vX7_wind, if_neg q1, if_neg q3, if_pos q5]) dX7_wind_50 (fun H h => by rw [sX7_wind, if_neg q1, if_neg q3, if_pos q5]; exact h)
      ·
        refine j_iconst C0 (v := 0) dX7_wind_38 (by decide) ?_
        refine j_goto C0 43 dX7_wind_39 (by decide) ?_
        refine j_callVv C0 (k_X7_holds hl ad F G ((0 : Int32)) ) mv_X7_holds wm_X7_85 (r_recv C0) rfl rfl ⟨Nat.le_of_ble_eq_true rfl, Nat.le_of_ble_eq_true rfl⟩ (Nat.le_of_ble_eq_true rfl) ⟨Nat.le_refl _, Nat.le_refl _⟩ dX7_wind_43 ?_
        refine j_top (1 : Int32) (by unfold vX7_holds; decide +kernel) ?_
        show J p l e _ s m args below meth c A 6 _ (OV D Y A ad (0 : Int32) (F 1) (F 5) (F 18) (F 19) (F 20) (G 2) (G 3) (G 4) (G 6) (G 7) (G 8) (G 9) (G 10) (G 11) (G 12) (G 13) (G 14) (G 15) (G 16) (G 17) (G 21) (G 22) (G 23) (G 24) (G 25)) 0 0 46 [(0, .ref (ad 0)), (1, .int (a1)), (2, .int (a2)), (3, .int (a3))] [.int ((1 : Int32))]
        refine j_if_ne C0 51 dX7_wind_46 (by decide) (fun _ => ?_) (fun z => absurd z (by decide))
        refine j_aload_n C0 dX7_wind_51 rfl ?_
        refine r_gf_3 C0 dX7_wind_52 ?_
        refine j_iload_n C0 dX7_wind_55 rfl ?_
        refine r_ld_3 C0 (v := ((G 3) (a1).toNatClampNeg)) (by obtain ⟨u, v, hx, hv, ea, eb⟩ := (wind_facts hn q1 q3); rw [ea]; exact vp_in_nI (by omega) (by decide)) dX7_wind_56 rfl ?_
        refine j_istore C0 (L' := [(0, .ref (ad 0)), (1, .int (a1)), (2, .int (a2)), (3, .int (a3)), (4, .int (((G 3) (a1).toNatClampNeg)))]) dX7_wind_57 (by decide) rfl ?_
        refine j_iload_n C0 dX7_wind_59 rfl ?_
        refine j_istore C0 (L' := [(0, .ref (ad 0)), (1, .int (a1)), (2, .int (a2)), (3, .int (a3)), (4, .int (((G 3) (a1).toNatClampNeg))), (5, .int (a1))]) dX7_wind_60 (by decide) rfl ?_
        obtain ⟨u, v, hx, hv, ea, eb⟩ := (wind_facts hn q1 q3)
        have hk : ∀ j, a1 + nI j = nI (u + j) := fun j => by rw [ea, nI_add]
        have hk2 : a1 + a2 = nI (u + v) := by rw [ea, eb, nI_add]
        have hN : a2.toNatClampNeg = v := by rw [eb, nI_clamp (by omega)]
        refine j_castL (L' := [(0, .ref (ad 0)), (1, .int (a1)), (2, .int (a2)), (3, .int (a3)), (4, .int (((G 3) (a1).toNatClampNeg))), (5, .int ((a1 + nI (0))))]) (by simp only [k_zero]) ?_
        refine hb_lp (P := fun (j : Nat) (v : (Nat → Int32)) => J p l e _ s m args below meth c A 6 _ (OV D Y A ad (0 : Int32) (F 1) (F 5) (F 18) (F 19) (F 20) (G 2) v (G 4) (G 6) (G 7) (G 8) (G 9) (G 10) (G 11) (G 12) (G 13) (G 14) (G 15) (G 16) (G 17) (G 21) (G 22) (G 23) (G 24) (G 25)) 0 0 62 [(0, .ref (ad 0)), (1, .int (a1)), (2, .int (a2)), (3, .int (a3)), (4, .int (((G 3) (a1).toNatClampNeg))), (5, .int ((a1 + nI (j))))] []) (bX7_wind_62 F G a1 a2 a3) ((G 3)) ((a2).toNatClampNeg) ?_ ?_
        ·
          intro j62 hj62 K62
          generalize nf (bX7_wind_62 F G a1 a2 a3) ((G 3)) j62 = v62 at K62 ⊢
          show J p l e _ s m args below meth c A 6 _ (OV D Y A ad (0 : Int32) (F 1) (F 5) (F 18) (F 19) (F 20) (G 2) v62 (G 4) (G 6) (G 7) (G 8) (G 9) (G 10) (G 11) (G 12) (G 13) (G 14) (G 15) (G 16) (G 17) (G 21) (G 22) (G 23) (G 24) (G 25)) 0 0 62 [(0, .ref (ad 0)), (1, .int (a1)), (2, .int (a2)), (3, .int (a3)), (4, .int (((G 3) (a1).toNatClampNeg))), (5, .int ((a1 + nI (j62))))] []
          replace K62 : J p l e _ s m args below meth c A 6 _ (OV D Y A ad (0 : Int32) (F 1) (F 5) (F 18) (F 19) (F 20) (G 2) (bX7_wind_62 F G a1 a2 a3 j62 v62) (G 4) (G 6) (G 7) (G 8) (G 9) (G 10) (G 11) (G 12) (G 13) (G 14) (G 15) (G 16) (G 17) (G 21) (G 22) (G 23) (G 24) (G 25)) 0 0 62 [(0, .ref (ad 0)), (1, .int (a1)), (2, .int (a2)), (3, .int (a3)), (4, .int (((G 3) (a1).toNatClampNeg))), (5, .int ((a1 + nI (j62 + 1))))] [] := K62
          have hj62 : j62 < v := by rw [← hN]; exact hj62
          refine j_iload C0 dX7_wind_62 rfl ?_
          refine j_iload_n C0 dX7_wind_64 rfl ?_
          refine j_iload_n C0 dX7_wind_65 rfl ?_
          refine j_iadd C0 dX7_wind_66 ?_
          refine j_icmp_ge C0 84 dX7_wind_67 (by decide) (fun z => absurd z (by rw [hk, hk2]; exact nI_ge (by omega) (by omega))) (fun _ => ?_)
          refine j_aload_n C0 dX7_wind_70 rfl ?_
          refine r_gf_3 C0 dX7_wind_71 ?_
          refine j_iload C0 dX7_wind_74 rfl ?_
          refine j_iload_n C0 dX7_wind_76 rfl ?_
          refine r_st_3 C0 (by rw [hk]; exact vp_in_nI (by omega) (by decide)) dX7_wind_77 ?_
          refine j_iinc C0 (v := (a1 + nI (j62 + 1))) (L' := [(0, .ref (ad 0)), (1, .int (a1)), (2, .int (a2)), (3, .int (a3)), (4, .int (((G 3) (a1).toNatClampNeg))), (5, .int ((a1 + nI (j62 + 1))))]) dX7_wind_78 rfl (k_inc _ j62) (by decide) rfl ?_
          refine j_goto C0 62 dX7_wind_81 (by decide) ?_
          exact K62
        ·
          show J p l e _ s m args below meth c A 6 _ (OV D Y A ad (0 : Int32) (F 1) (F 5) (F 18) (F 19) (F 20) (G 2) (nf (bX7_wind_62 F G a1 a2 a3) ((G 3)) ((a2).toNatClampNeg)) (G 4) (G 6) (G 7) (G 8) (G 9) (G 10) (G 11) (G 12) (G 13) (G 14) (G 15) (G 16) (G 17) (G 21) (G 22) (G 23) (G 24) (G 25)) 0 0 62 [(0, .ref (ad 0)), (1, .int (a1)), (2, .int (a2)), (3, .int (a3)), (4, .int (((G 3) (a1).toNatClampNeg))), (5, .int ((a1 + nI (((a2).toNatClampNeg)))))] []
          refine j_iload C0 dX7_wind_62 rfl ?_
          refine j_iload_n C0 dX7_wind_64 rfl ?_
          refine j_iload_n C0 dX7_wind_65 rfl ?_
          refine j_iadd C0 dX7_wind_66 ?_
          refine j_icmp_ge C0 84 dX7_wind_67 (by decide) (fun _ => ?_) (fun z => absurd (by rw [hN, hk, hk2]; exact Int32.le_refl _) z)
          refine j_iload C0 dX7_wind_84 rfl ?_
          exact j_iretE C0 rfl (by rw [vX7_wind, if_neg q1, if_neg q3, if_neg q5]) dX7_wind_86 (fun H h => by rw [sX7_wind, if_neg q1, if_neg q3, if_neg q5]; exact h)
/-! ## depth(I)I -/
def vX7_depth (F : Nat → Int32) (G : Nat → Nat → Int32) (a1 : Int32) : Int32 := (if (vX7_isIn (a1) ((0 : Int32)) ((3100 : Int32))) = 0 then (0 : Int32) else (vX7_depthOf (hu F 0 (0 : Int32)) G (a1)))
def sX7_depth (F : Nat → Int32) (G : Nat → Nat → Int32) (a1 : Int32) : (Nat → Int32) × (Nat → Nat → Int32) := (if (vX7_isIn (a1) ((0 : Int32)) ((3100 : Int32))) = 0 then ((hu F 0 (1 : Int32)), G) else ((hu F 0 (0 : Int32)), G))
set_option maxRecDepth 100000 in
set_option maxHeartbeats 4000000 in
theorem k_X7_depth {l : Launch} (hl : l.stackTraces = false) {D : va_G} {Y : Nat → ClassId} {A : Nat → Prop} {E : State → Prop} (ad : Nat → Nat) (F : Nat → Int32) (G : Nat → Nat → Int32) (a1 : Int32) (hI : RI F G) : KM l yX7_depth cX7_depth 2 (some .int) D Y A E 1 22 0 0 [.ref (ad 0), .int (a1)] (OR D Y A ad F G) (some (.int (vX7_depth F G a1))) (OR D Y A ad (sX7_depth F G a1).1 (sX7_depth F G a1).2) := by
  refine KM_of RX7 [(0, .ref (ad 0)), (1, .int (a1))] rfl (by decide) hl (Nat.le_of_ble_eq_true rfl) rfl (lok_of rfl rfl) ?_
  intro p e s m args below meth c C0
  obtain ⟨hn, hs, hm, hb, hw, hr⟩ := id hI
  refine j_aload_n C0 dX7_depth_0 rfl ?_
  refine j_iload_n C0 dX7_depth_1 rfl ?_
  refine j_iconst C0 (v := 0) dX7_depth_2 (by decide) ?_
  refine j_sipush C0 (v := 3100) dX7_depth_3 (by decide) ?_
  refine j_callSv C0 (k_X7_isIn hl (a1) ((0 : Int32)) ((3100 : Int32)) ) ms_X7_isIn wm_X7_78 rfl rfl ⟨Nat.le_of_ble_eq_true rfl, Nat.le_of_ble_eq_true rfl⟩ (Nat.le_of_ble_eq_true rfl) ⟨Nat.le_refl _, Nat.le_refl _⟩ dX7_depth_6 ?_
  refine j_if_eq C0 16 dX7_depth_9 (by decide) (fun (q1 : (vX7_isIn (a1) ((0 : Int32)) ((3100 : Int32))) = 0) => ?_) (fun (q1 : ¬ ((vX7_isIn (a1) ((0 : Int32)) ((3100 : Int32))) = 0)) => ?_)
  ·
    refine j_iconst C0 (v := 1) dX7_depth_16 (by decide) ?_
    refine j_callVv C0 (k_X7_holds hl ad F G ((1 : Int32)) ) mv_X7_holds wm_X7_85 (r_recv C0) rfl rfl ⟨Nat.le_of_ble_eq_true rfl, Nat.le_of_ble_eq_true rfl⟩ (Nat.le_of_ble_eq_true rfl) ⟨Nat.le_refl _, Nat.le_refl _⟩ dX7_depth_17 ?_
    refine j_top (0 : Int32) (by unfold vX7_holds; decide +kernel) ?_
    show J p l e _ s m args below meth c A 2 _ (OV D Y A ad (1 : Int32) (F 1) (F 5) (F 18) (F 19) (F 20) (G 2) (G 3) (G 4) (G 6) (G 7) (G 8) (G 9) (G 10) (G 11) (G 12) (G 13) (G 14) (G 15) (G 16) (G 17) (G 21) (G 22) (G 23) (G 24) (G 25)) 0 0 20 [(0, .ref (ad 0)), (1, .int (a1))] [.int ((0 : Int32))]
    refine j_if_eq C0 31 dX7_depth_20 (by decide) (fun _ => ?_) (fun z => absurd (by decide) z)
    refine j_iconst C0 (v := 0) dX7_depth_31 (by decide) ?_
    exact j_iretE C0 rfl (by rw [vX7_depth, if_pos q1]) dX7_depth_32 (fun H h => by rw [sX7_depth, if_pos q1]; exact h)
  ·
    refine j_iconst C0 (v := 0) dX7_depth_12 (by decide) ?_
    refine j_goto C0 17 dX7_depth_13 (by decide) ?_
    refine j_callVv C0 (k_X7_holds hl ad F G ((0 : Int32)) ) mv_X7_holds wm_X7_85 (r_recv C0) rfl rfl ⟨Nat.le_of_ble_eq_true rfl, Nat.le_of_ble_eq_true rfl⟩ (Nat.le_of_ble_eq_true rfl) ⟨Nat.le_refl _, Nat.le_refl _⟩ dX7_depth_17 ?_
    refine j_top (1 : Int32) (by unfold vX7_holds; decide +kernel) ?_
    show J p l e _ s m args below meth c A 2 _ (OV D Y A ad (0 : Int32) (F 1) (F 5) (F 18) (F 19) (F 20) (G 2) (G 3) (G 4) (G 6) (G 7) (G 8) (G 9) (G 10) (G 11) (G 12) (G 13) (G 14) (G 15) (G 16) (G 17) (G 21) (G 22) (G 23) (G 24) (G 25)) 0 0 20 [(0, .ref (ad 0)), (1, .int (a1))] [.int ((1 : Int32))]
    refine j_if_eq C0 31 dX7_depth_20 (by decide) (fun z => absurd z (by decide)) (fun _ => ?_)
    refine j_aload_n C0 dX7_depth_23 rfl ?_
    refine j_iload_n C0 dX7_depth_24 rfl ?_
    refine j_callVv C0 (k_X7_depthOf hl ad (hu F 0 (0 : Int32)) G (a1) (isIn_vp q1 (by decide))) mv_X7_depthOf wm_X7_92 (r_recv C0) rfl rfl ⟨Nat.le_of_ble_eq_true rfl, Nat.le_of_ble_eq_true rfl⟩ (Nat.le_of_ble_eq_true rfl) ⟨Nat.le_refl _, Nat.le_refl _⟩ dX7_depth_25 ?_
    refine j_goto C0 32 dX7_depth_28 (by decide) ?_
    exact j_iretE C0 rfl (by rw [vX7_depth, if_neg q1]) dX7_depth_32 (fun H h => by rw [sX7_depth, if_neg q1]; exact h)
/-! ## berth(II)I -/
def vX7_berth (F : Nat → Int32) (G : Nat → Nat → Int32) (a1 : Int32) (a2 : Int32) : Int32 := (if (vX7_isIn (a1) ((0 : Int32)) ((5 : Int32))) = 0 then (0 : Int32) else (if (vX7_isIn (a2) ((0 : Int32)) ((200 : Int32))) = 0 then (0 : Int32) else (if (vX7_wasUsed F G (a1)) = 0 then ((G 4) (a1).toNatClampNeg) else (0 : Int32))))
def sX7_berth (F : Nat → Int32) (G : Nat → Nat → Int32) (a1 : Int32) (a2 : Int32) : (Nat → Int32) × (Nat → Nat → Int32) := (if (vX7_isIn (a1) ((0 : Int32)) ((5 : Int32))) = 0 then ((hu F 0 (1 : Int32)), G) else (if (vX7_isIn (a2) ((0 : Int32)) ((200 : Int32))) = 0 then ((hu F 0 (2 : Int32)), G) else (if (vX7_wasUsed F G (a1)) = 0 then ((hu F 0 (0 : Int32)), (hu G 4 (upd (G 4) (a1).toNatClampNeg (a2)))) else ((hu F 0 (3 : Int32)), G))))
set_option maxRecDepth 100000 in
set_option maxHeartbeats 4000000 in
theorem k_X7_berth {l : Launch} (hl : l.stackTraces = false) {D : va_G} {Y : Nat → ClassId} {A : Nat → Prop} {E : State → Prop} (ad : Nat → Nat) (F : Nat → Int32) (G : Nat → Nat → Int32) (a1 : Int32) (a2 : Int32) (hI : RI F G) : KM l yX7_berth cX7_berth 4 (some .int) D Y A E 1 23 0 0 [.ref (ad 0), .int (a1), .int (a2)] (OR D Y A ad F G) (some (.int (vX7_berth F G a1 a2))) (OR D Y A ad (sX7_berth F G a1 a2).1 (sX7_berth F G a1 a2).2) := by
  refine KM_of RX7 [(0, .ref (ad 0)), (1, .int (a1)), (2, .int (a2))] rfl (by decide) hl (Nat.le_of_ble_eq_true rfl) rfl (lok_of rfl rfl) ?_
  intro p e s m args below meth c C0
  obtain ⟨hn, hs, hm, hb, hw, hr⟩ := id hI
  refine j_aload_n C0 dX7_berth_0 rfl ?_
  refine j_iload_n C0 dX7_berth_1 rfl ?_
  refine j_iconst C0 (v := 0) dX7_berth_2 (by decide) ?_
  refine j_iconst C0 (v := 5) dX7_berth_3 (by decide) ?_
  refine j_callSv C0 (k_X7_isIn hl (a1) ((0 : Int32)) ((5 : Int32)) ) ms_X7_isIn wm_X7_78 rfl rfl ⟨Nat.le_of_ble_eq_true rfl, Nat.le_of_ble_eq_true rfl⟩ (Nat.le_of_ble_eq_true rfl) ⟨Nat.le_refl _, Nat.le_refl _⟩ dX7_berth_4 ?_
  refine j_if_ne C0 14 dX7_berth_7 (by decide) (fun (q1 : ¬ ((vX7_isIn (a1) ((0 : Int32)) ((5 : Int32))) = 0)) => ?_) (fun (q1 : (vX7_isIn (a1) ((0 : Int32)) ((5 : Int32))) = 0) => ?_)
  ·
    refine j_iload_n C0 dX7_berth_14 rfl ?_
    refine j_iconst C0 (v := 0) dX7_berth_15 (by decide) ?_
    refine j_sipush C0 (v := 200) dX7_berth_16 (by decide) ?_
    refine j_callSv C0 (k_X7_isIn hl (a2) ((0 : Int32)) ((200 : Int32)) ) ms_X7_isIn wm_X7_78 rfl rfl ⟨Nat.le_of_ble_eq_true rfl, Nat.le_of_ble_eq_true rfl⟩ (Nat.le_of_ble_eq_true rfl) ⟨Nat.le_refl _, Nat.le_refl _⟩ dX7_berth_19 ?_
    refine j_if_ne C0 29 dX7_berth_22 (by decide) (fun (q2 : ¬ ((vX7_isIn (a2) ((0 : Int32)) ((200 : Int32))) = 0)) => ?_) (fun (q2 : (vX7_isIn (a2) ((0 : Int32)) ((200 : Int32))) = 0) => ?_)
    ·
      refine j_aload_n C0 dX7_berth_29 rfl ?_
      refine j_iload_n C0 dX7_berth_30 rfl ?_
      refine j_callVv C0 (k_X7_wasUsed hl ad F G (a1) hm hw) mv_X7_wasUsed wm_X7_96 (r_recv C0) rfl rfl ⟨Nat.le_of_ble_eq_true rfl, Nat.le_of_ble_eq_true rfl⟩ (Nat.le_of_ble_eq_true rfl) ⟨Nat.le_refl _, Nat.le_refl _⟩ dX7_berth_31 ?_
      refine j_if_eq C0 41 dX7_berth_34 (by decide) (fun (q3 : (vX7_wasUsed F G (a1)) = 0) => ?_) (fun (q3 : ¬ ((vX7_wasUsed F G (a1)) = 0)) => ?_)
      ·
        refine j_iconst C0 (v := 0) dX7_berth_41 (by decide) ?_
        refine j_callVv C0 (k_X7_holds hl ad F G ((0 : Int32)) ) mv_X7_holds wm_X7_85 (r_recv C0) rfl rfl ⟨Nat.le_of_ble_eq_true rfl, Nat.le_of_ble_eq_true rfl⟩ (Nat.le_of_ble_eq_true rfl) ⟨Nat.le_refl _, Nat.le_refl _⟩ dX7_berth_42 ?_
        refine j_top (1 : Int32) (by unfold vX7_holds; decide +kernel) ?_
        show J p l e _ s m args below meth c A 4 _ (OV D Y A ad (0 : Int32) (F 1) (F 5) (F 18) (F 19) (F 20) (G 2) (G 3) (G 4) (G 6) (G 7) (G 8) (G 9) (G 10) (G 11) (G 12) (G 13) (G 14) (G 15) (G 16) (G 17) (G 21) (G 22) (G 23) (G 24) (G 25)) 0 0 45 [(0, .ref (ad 0)), (1, .int (a1)), (2, .int (a2))] [.int ((1 : Int32))]
        refine j_if_ne C0 50 dX7_berth_45 (by decide) (fun _ => ?_) (fun z => absurd z (by decide))
        refine j_aload_n C0 dX7_berth_50 rfl ?_
        refine r_gf_4 C0 dX7_berth_51 ?_
        refine j_iload_n C0 dX7_berth_54 rfl ?_
        refine r_ld_4 C0 (v := ((G 4) (a1).toNatClampNeg)) (isIn_vp q1 (by decide)) dX7_berth_55 rfl ?_
        refine j_istore_n C0 (L' := [(0, .ref (ad 0)), (1, .int (a1)), (2, .int (a2)), (3, .int (((G 4) (a1).toNatClampNeg)))]) dX7_berth_56 (by decide) rfl ?_
        refine j_aload_n C0 dX7_berth_57 rfl ?_
        refine r_gf_4 C0 dX7_berth_58 ?_
        refine j_iload_n C0 dX7_berth_61 rfl ?_
        refine j_iload_n C0 dX7_berth_62 rfl ?_
        refine r_st_4 C0 (isIn_vp q1 (by decide)) dX7_berth_63 ?_
        refine j_iload_n C0 dX7_berth_64 rfl ?_
        exact j_iretE C0 rfl (by rw [vX7_berth, if_neg q1, if_neg q2, if_pos q3]) dX7_berth_65 (fun H h => by rw [sX7_berth, if_neg q1, if_neg q2, if_pos q3]; exact h)
      ·
        refine j_iconst C0 (v := 3) dX7_berth_37 (by decide) ?_
        refine j_goto C0 42 dX7_berth_38 (by decide) ?_
        refine j_callVv C0 (k_X7_holds hl ad F G ((3 : Int32)) ) mv_X7_holds wm_X7_85 (r_recv C0) rfl rfl ⟨Nat.le_of_ble_eq_true rfl, Nat.le_of_ble_eq_true rfl⟩ (Nat.le_of_ble_eq_true rfl) ⟨Nat.le_refl _, Nat.le_refl _⟩ dX7_berth_42 ?_
        refine j_top (0 : Int32) (by unfold vX7_holds; decide +kernel) ?_
        show J p l e _ s m args below meth c A 4 _ (OV D Y A ad (3 : Int32) (F 1) (F 5) (F 18) (F 19) (F 20) (G 2) (G 3) (G 4) (G 6) (G 7) (G 8) (G 9) (G 10) (G 11) (G 12) (G 13) (G 14) (G 15) (G 16) (G 17) (G 21) (G 22) (G 23) (G 24) (G 25)) 0 0 45 [(0, .ref (ad 0)), (1, .int (a1)), (2, .int (a2))] [.int ((0 : Int32))]
        refine j_if_ne C0 50 dX7_berth_45 (by decide) (fun z => absurd (by decide) z) (fun _ => ?_)
        refine j_iconst C0 (v := 0) dX7_berth_48 (by decide) ?_
        exact j_iretE C0 rfl (by rw [vX7_berth, if_neg q1, if_neg q2, if_neg q3]) dX7_berth_49 (fun H h => by rw [sX7_berth, if_neg q1, if_neg q2, if_neg q3]; exact h)
    ·
      refine j_iconst C0 (v := 2) dX7_berth_25 (by decide) ?_
      refine j_goto C0 42 dX7_berth_26 (by decide) ?_
      refine j_callVv C0 (k_X7_holds hl ad F G ((2 : Int32)) ) mv_X7_holds wm_X7_85 (r_recv C0) rfl rfl ⟨Nat.le_of_ble_eq_true rfl, Nat.le_of_ble_eq_true rfl⟩ (Nat.le_of_ble_eq_true rfl) ⟨Nat.le_refl _, Nat.le_refl _⟩ dX7_berth_42 ?_
      refine j_top (0 : Int32) (by unfold vX7_holds; decide +kernel) ?_
      show J p l e _ s m args below meth c A 4 _ (OV D Y A ad (2 : Int32) (F 1) (F 5) (F 18) (F 19) (F 20) (G 2) (G 3) (G 4) (G 6) (G 7) (G 8) (G 9) (G 10) (G 11) (G 12) (G 13) (G 14) (G 15) (G 16) (G 17) (G 21) (G 22) (G 23) (G 24) (G 25)) 0 0 45 [(0, .ref (ad 0)), (1, .int (a1)), (2, .int (a2))] [.int ((0 : Int32))]
      refine j_if_ne C0 50 dX7_berth_45 (by decide) (fun z => absurd (by decide) z) (fun _ => ?_)
      refine j_iconst C0 (v := 0) dX7_berth_48 (by decide) ?_
      exact j_iretE C0 rfl (by rw [vX7_berth, if_neg q1, if_pos q2]) dX7_berth_49 (fun H h => by rw [sX7_berth, if_neg q1, if_pos q2]; exact h)
  ·
    refine j_iconst C0 (v := 1) dX7_berth_10 (by decide) ?_
    refine j_goto C0 42 dX7_berth_11 (by decide) ?_
    refine j_callVv C0 (k_X7_holds hl ad F G ((1 : Int32)) ) mv_X7_holds wm_X7_85 (r_recv C0) rfl rfl ⟨Nat.le_of_ble_eq_true rfl, Nat.le_of_ble_eq_true rfl⟩ (Nat.le_of_ble_eq_true rfl) ⟨Nat.le_refl _, Nat.le_refl _⟩ dX7_berth_42 ?_
    refine j_top (0 : Int32) (by unfold vX7_holds; decide +kernel) ?_
    show J p l e _ s m args below meth c A 4 _ (OV D Y A ad (1 : Int32) (F 1) (F 5) (F 18) (F 19) (F 20) (G 2) (G 3) (G 4) (G 6) (G 7) (G 8) (G 9) (G 10) (G 11) (G 12) (G 13) (G 14) (G 15) (G 16) (G 17) (G 21) (G 22) (G 23) (G 24) (G 25)) 0 0 45 [(0, .ref (ad 0)), (1, .int (a1)), (2, .int (a2))] [.int ((0 : Int32))]
    refine j_if_ne C0 50 dX7_berth_45 (by decide) (fun z => absurd (by decide) z) (fun _ => ?_)
    refine j_iconst C0 (v := 0) dX7_berth_48 (by decide) ?_
    exact j_iretE C0 rfl (by rw [vX7_berth, if_pos q1]) dX7_berth_49 (fun H h => by rw [sX7_berth, if_pos q1]; exact h)
/-! ## ship(IIII)I -/
def vX7_ship (F : Nat → Int32) (G : Nat → Nat → Int32) (a1 : Int32) (a2 : Int32) (a3 : Int32) (a4 : Int32) : Int32 := (if (vX7_isIn (a1) ((1 : Int32)) ((4 : Int32))) = 0 then (if (vX7_isIn (a4) ((0 : Int32)) ((5 : Int32))) = 0 then (0 : Int32) else (0 : Int32)) else (if (vX7_isIn (a2) ((10 : Int32)) ((150 : Int32))) = 0 then (if (vX7_isIn (a4) ((0 : Int32)) ((5 : Int32))) = 0 then (0 : Int32) else (0 : Int32)) else (if (vX7_isIn (a3) ((0 : Int32)) ((3 : Int32))) = 0 then (if (vX7_isIn (a4) ((0 : Int32)) ((5 : Int32))) = 0 then (0 : Int32) else (0 : Int32)) else (if (vX7_isIn (a4) ((0 : Int32)) ((5 : Int32))) = 0 then (0 : Int32) else (if (F 5) = (30 : Int32) then (0 : Int32) else (((F 5) + (1 : Int32)) - (1 : Int32)))))))
def sX7_ship (F : Nat → Int32) (G : Nat → Nat → Int32) (a1 : Int32) (a2 : Int32) (a3 : Int32) (a4 : Int32) : (Nat → Int32) × (Nat → Nat → Int32) := (if (vX7_isIn (a1) ((1 : Int32)) ((4 : Int32))) = 0 then (if (vX7_isIn (a4) ((0 : Int32)) ((5 : Int32))) = 0 then ((hu F 0 (1 : Int32)), G) else ((hu F 0 (2 : Int32)), G)) else (if (vX7_isIn (a2) ((10 : Int32)) ((150 : Int32))) = 0 then (if (vX7_isIn (a4) ((0 : Int32)) ((5 : Int32))) = 0 then ((hu F 0 (1 : Int32)), G) else ((hu F 0 (2 : Int32)), G)) else (if (vX7_isIn (a3) ((0 : Int32)) ((3 : Int32))) = 0 then (if (vX7_isIn (a4) ((0 : Int32)) ((5 : Int32))) = 0 then ((hu F 0 (1 : Int32)), G) else ((hu F 0 (2 : Int32)), G)) else (if (vX7_isIn (a4) ((0 : Int32)) ((5 : Int32))) = 0 then ((hu F 0 (1 : Int32)), G) else (if (F 5) = (30 : Int32) then ((hu F 0 (3 : Int32)), G) else ((hu (hu F 0 (0 : Int32)) 5 ((F 5) + (1 : Int32))), (hu (hu (hu (hu (hu G 6 (upd (G 6) ((F 5)).toNatClampNeg (a1))) 7 (upd (G 7) ((F 5)).toNatClampNeg (a2))) 8 (upd (G 8) ((F 5)).toNatClampNeg (a3))) 9 (upd (G 9) ((F 5)).toNatClampNeg (a4))) 11 (upd (G 11) ((F 5)).toNatClampNeg ((-1 : Int32))))))))))
set_option maxRecDepth 100000 in
set_option maxHeartbeats 4000000 in
theorem k_X7_ship {l : Launch} (hl : l.stackTraces = false) {D : va_G} {Y : Nat → ClassId} {A : Nat → Prop} {E : State → Prop} (ad : Nat → Nat) (F : Nat → Int32) (G : Nat → Nat → Int32) (a1 : Int32) (a2 : Int32) (a3 : Int32) (a4 : Int32) (hI : RI F G) : KM l yX7_ship cX7_ship 6 (some .int) D Y A E 1 22 0 0 [.ref (ad 0), .int (a1), .int (a2), .int (a3), .int (a4)] (OR D Y A ad F G) (some (.int (vX7_ship F G a1 a2 a3 a4))) (OR D Y A ad (sX7_ship F G a1 a2 a3 a4).1 (sX7_ship F G a1 a2 a3 a4).2) := by
  refine KM_of RX7 [(0, .ref (ad 0)), (1, .int (a1)), (2, .int (a2)), (3, .int (a3)), (4, .int (a4))] rfl (by decide) hl (Nat.le_of_ble_eq_true rfl) rfl (lok_of rfl rfl) ?_
  intro p e s m args below meth c C0
  obtain ⟨hn, hs, hm, hb, hw, hr⟩ := id hI
  refine j_iload_n C0 dX7_ship_0 rfl ?_
  refine j_iconst C0 (v := 1) dX7_ship_1 (by decide) ?_
  refine j_iconst C0 (v := 4) dX7_ship_2 (by decide) ?_
  refine j_callSv C0 (k_X7_isIn hl (a1) ((1 : Int32)) ((4 : Int32)) ) ms_X7_isIn wm_X7_78 rfl rfl ⟨Nat.le_of_ble_eq_true rfl, Nat.le_of_ble_eq_true rfl⟩ (Nat.le_of_ble_eq_true rfl) ⟨Nat.le_refl _, Nat.le_refl _⟩ dX7_ship_3 ?_
  refine j_if_eq C0 34 dX7_ship_6 (by decide) (fun (q1 : (vX7_isIn (a1) ((1 : Int32)) ((4 : Int32))) = 0) => ?_) (fun (q1 : ¬ ((vX7_isIn (a1) ((1 : Int32)) ((4 : Int32))) = 0)) => ?_)
  ·
    refine j_iconst C0 (v := 0) dX7_ship_34 (by decide) ?_
    refine j_istore C0 (L' := [(0, .ref (ad 0)), (1, .int (a1)), (2, .int (a2)), (3, .int (a3)), (4, .int (a4)), (5, .int ((0 : Int32)))]) dX7_ship_35 (by decide) rfl ?_
    refine j_aload_n C0 dX7_ship_37 rfl ?_
    refine j_iload C0 dX7_ship_38 rfl ?_
    refine j_iconst C0 (v := 0) dX7_ship_40 (by decide) ?_
    refine j_iconst C0 (v := 5) dX7_ship_41 (by decide) ?_
    refine j_callSv C0 (k_X7_isIn hl (a4) ((0 : Int32)) ((5 : Int32)) ) ms_X7_isIn wm_X7_78 rfl rfl ⟨Nat.le_of_ble_eq_true rfl, Nat.le_of_ble_eq_true rfl⟩ (Nat.le_of_ble_eq_true rfl) ⟨Nat.le_refl _, Nat.le_refl _⟩ dX7_ship_42 ?_
    refine j_if_ne C0 52 dX7_ship_45 (by decide) (fun (q2 : ¬ ((vX7_isIn (a4) ((0 : Int32)) ((5 : Int32))) = 0)) => ?_) (fun (q2 : (vX7_isIn (a4) ((0 : Int32)) ((5 : Int32))) = 0) => ?_)
    ·
      refine j_iload C0 dX7_ship_52 rfl ?_
      refine j_if_ne C0 61 dX7_ship_54 (by decide) (fun z => absurd (by decide) z) (fun _ => ?_)
      refine j_iconst C0 (v := 2) dX7_ship_57 (by decide) ?_
      refine j_goto C0 75 dX7_ship_58 (by decide) ?_
      refine j_callVv C0 (k_X7_holds hl ad F G ((2 : Int32)) ) mv_X7_holds wm_X7_85 (r_recv C0) rfl rfl ⟨Nat.le_of_ble_eq_true rfl, Nat.le_of_ble_eq_true rfl⟩ (Nat.le_of_ble_eq_true rfl) ⟨Nat.le_refl _, Nat.le_refl _⟩ dX7_ship_75 ?_
      refine j_top (0 : Int32) (by unfold vX7_holds; decide +kernel) ?_
      show J p l e _ s m args below meth c A 6 _ (OV D Y A ad (2 : Int32) (F 1) (F 5) (F 18) (F 19) (F 20) (G 2) (G 3) (G 4) (G 6) (G 7) (G 8) (G 9) (G 10) (G 11) (G 12) (G 13) (G 14) (G 15) (G 16) (G 17) (G 21) (G 22) (G 23) (G 24) (G 25)) 0 0 78 [(0, .ref (ad 0)), (1, .int (a1)), (2, .int (a2)), (3, .int (a3)), (4, .int (a4)), (5, .int ((0 : Int32)))] [.int ((0 : Int32))]
      refine j_if_ne C0 83 dX7_ship_78 (by decide) (fun z => absurd (by decide) z) (fun _ => ?_)
      refine j_iconst C0 (v := 0) dX7_ship_81 (by decide) ?_
      exact j_iretE C0 rfl (by rw [vX7_ship, if_pos q1, if_neg q2]) dX7_ship_82 (fun H h => by rw [sX7_ship, if_pos q1, if_neg q2]; exact h)
    ·
      refine j_iconst C0 (v := 1) dX7_ship_48 (by decide) ?_
      refine j_goto C0 75 dX7_ship_49 (by decide) ?_
      refine j_callVv C0 (k_X7_holds hl ad F G ((1 : Int32)) ) mv_X7_holds wm_X7_85 (r_recv C0) rfl rfl ⟨Nat.le_of_ble_eq_true rfl, Nat.le_of_ble_eq_true rfl⟩ (Nat.le_of_ble_eq_true rfl) ⟨Nat.le_refl _, Nat.le_refl _⟩ dX7_ship_75 ?_
      refine j_top (0 : Int32) (by unfold vX7_holds; decide +kernel) ?_
      show J p l e _ s m args below meth c A 6 _ (OV D Y A ad (1 : Int32) (F 1) (F 5) (F 18) (F 19) (F 20) (G 2) (G 3) (G 4) (G 6) (G 7) (G 8) (G 9) (G 10) (G 11) (G 12) (G 13) (G 14) (G 15) (G 16) (G 17) (G 21) (G 22) (G 23) (G 24) (G 25)) 0 0 78 [(0, .ref (ad 0)), (1, .int (a1)), (2, .int (a2)), (3, .int (a3)), (4, .int (a4)), (5, .int ((0 : Int32)))] [.int ((0 : Int32))]
      refine j_if_ne C0 83 dX7_ship_78 (by decide) (fun z => absurd (by decide) z) (fun _ => ?_)
      refine j_iconst C0 (v := 0) dX7_ship_81 (by decide) ?_
      exact j_iretE C0 rfl (by rw [vX7_ship, if_pos q1, if_pos q2]) dX7_ship_82 (fun H h => by rw [sX7_ship, if_pos q1, if_pos q2]; exact h)
  ·
    refine j_iload_n C0 dX7_ship_9 rfl ?_
    refine j_bipush C0 (v := 10) dX7_ship_10 (by decide) ?_
    refine j_sipush C0 (v := 150) dX7_ship_12 (by decide) ?_
    refine j_callSv C0 (k_X7_isIn hl (a2) ((10 : Int32)) ((150 : Int32)) ) ms_X7_isIn wm_X7_78 rfl rfl ⟨Nat.le_of_ble_eq_true rfl, Nat.le_of_ble_eq_true rfl⟩ (Nat.le_of_ble_eq_true rfl) ⟨Nat.le_refl _, Nat.le_refl _⟩ dX7_ship_15 ?_
    refine j_if_eq C0 34 dX7_ship_18 (by decide) (fun (q6 : (vX7_isIn (a2) ((10 : Int32)) ((150 : Int32))) = 0) => ?_) (fun (q6 : ¬ ((vX7_isIn (a2) ((10 : Int32)) ((150 : Int32))) = 0)) => ?_)
    ·
      refine j_iconst C0 (v := 0) dX7_ship_34 (by decide) ?_
      refine j_istore C0 (L' := [(0, .ref (ad 0)), (1, .int (a1)), (2, .int (a2)), (3, .int (a3)), (4, .int (a4)), (5, .int ((0 : Int32)))]) dX7_ship_35 (by decide) rfl ?_
      refine j_aload_n C0 dX7_ship_37 rfl ?_
      refine j_iload C0 dX7_ship_38 rfl ?_
      refine j_iconst C0 (v := 0) dX7_ship_40 (by decide) ?_
      refine j_iconst C0 (v := 5) dX7_ship_41 (by decide) ?_
      refine j_callSv C0 (k_X7_isIn hl (a4) ((0 : Int32)) ((5 : Int32)) ) ms_X7_isIn wm_X7_78 rfl rfl ⟨Nat.le_of_ble_eq_true rfl, Nat.le_of_ble_eq_true rfl⟩ (Nat.le_of_ble_eq_true rfl) ⟨Nat.le_refl _, Nat.le_refl _⟩ dX7_ship_42 ?_
      refine j_if_ne C0 52 dX7_ship_45 (by decide) (fun (q7 : ¬ ((vX7_isIn (a4) ((0 : Int32)) ((5 : Int32))) = 0)) => ?_) (fun (q7 : (vX7_isIn (a4) ((0 : Int32)) ((5 : Int32))) = 0) => ?_)
      ·
        refine j_iload C0 dX7_ship_52 rfl ?_
        refine j_if_ne C0 61 dX7_ship_54 (by decide) (fun z => absurd (by decide) z) (fun _ => ?_)
        refine j_iconst C0 (v := 2) dX7_ship_57 (by decide) ?_
        refine j_goto C0 75 dX7_ship_58 (by decide) ?_
        refine j_callVv C0 (k_X7_holds hl ad F G ((2 : Int32)) ) mv_X7_holds wm_X7_85 (r_recv C0) rfl rfl ⟨Nat.le_of_ble_eq_true rfl, Nat.le_of_ble_eq_true rfl⟩ (Nat.le_of_ble_eq_true rfl) ⟨Nat.le_refl _, Nat.le_refl _⟩ dX7_ship_75 ?_
        refine j_top (0 : Int32) (by unfold vX7_holds; decide +kernel) ?_
        show J p l e _ s m args below meth c A 6 _ (OV D Y A ad (2 : Int32) (F 1) (F 5) (F 18) (F 19) (F 20) (G 2) (G 3) (G 4) (G 6) (G 7) (G 8) (G 9) (G 10) (G 11) (G 12) (G 13) (G 14) (G 15) (G 16) (G 17) (G 21) (G 22) (G 23) (G 24) (G 25)) 0 0 78 [(0, .ref (ad 0)), (1, .int (a1)), (2, .int (a2)), (3, .int (a3)), (4, .int (a4)), (5, .int ((0 : Int32)))] [.int ((0 : Int32))]
        refine j_if_ne C0 83 dX7_ship_78 (by decide) (fun z => absurd (by decide) z) (fun _ => ?_)
        refine j_iconst C0 (v := 0) dX7_ship_81 (by decide) ?_
        exact j_iretE C0 rfl (by rw [vX7_ship, if_neg q1, if_pos q6, if_neg q7]) dX7_ship_82 (fun H h => by rw [sX7_ship, if_neg q1, if_pos q6, if_neg q7]; exact h)
      ·
        refine j_iconst C0 (v := 1) dX7_ship_48 (by decide) ?_
        refine j_goto C0 75 dX7_ship_49 (by decide) ?_
        refine j_callVv C0 (k_X7_holds hl ad F G ((1 : Int32)) ) mv_X7_holds wm_X7_85 (r_recv C0) rfl rfl ⟨Nat.le_of_ble_eq_true rfl, Nat.le_of_ble_eq_true rfl⟩ (Nat.le_of_ble_eq_true rfl) ⟨Nat.le_refl _, Nat.le_refl _⟩ dX7_ship_75 ?_
        refine j_top (0 : Int32) (by unfold vX7_holds; decide +kernel) ?_
        show J p l e _ s m args below meth c A 6 _ (OV D Y A ad (1 : Int32) (F 1) (F 5) (F 18) (F 19) (F 20) (G 2) (G 3) (G 4) (G 6) (G 7) (G 8) (G 9) (G 10) (G 11) (G 12) (G 13) (G 14) (G 15) (G 16) (G 17) (G 21) (G 22) (G 23) (G 24) (G 25)) 0 0 78 [(0, .ref (ad 0)), (1, .int (a1)), (2, .int (a2)), (3, .int (a3)), (4, .int (a4)), (5, .int ((0 : Int32)))] [.int ((0 : Int32))]
        refine j_if_ne C0 83 dX7_ship_78 (by decide) (fun z => absurd (by decide) z) (fun _ => ?_)
        refine j_iconst C0 (v := 0) dX7_ship_81 (by decide) ?_
        exact j_iretE C0 rfl (by rw [vX7_ship, if_neg q1, if_pos q6, if_pos q7]) dX7_ship_82 (fun H h => by rw [sX7_ship, if_neg q1, if_pos q6, if_pos q7]; exact h)
    ·
      refine j_iload_n C0 dX7_ship_21 rfl ?_
      refine j_iconst C0 (v := 0) dX7_ship_22 (by decide) ?_
      refine j_iconst C0 (v := 3) dX7_ship_23 (by decide) ?_
      refine j_callSv C0 (k_X7_isIn hl (a3) ((0 : Int32)) ((3 : Int32)) ) ms_X7_isIn wm_X7_78 rfl rfl ⟨Nat.le_of_ble_eq_true rfl, Nat.le_of_ble_eq_true rfl⟩ (Nat.le_of_ble_eq_true rfl) ⟨Nat.le_refl _, Nat.le_refl _⟩ dX7_ship_24 ?_
      refine j_if_eq C0 34 dX7_ship_27 (by decide) (fun (q11 : (vX7_isIn (a3) ((0 : Int32)) ((3 : Int32))) = 0) => ?_) (fun (q11 : ¬ ((vX7_isIn (a3) ((0 : Int32)) ((3 : Int32))) = 0)) => ?_)
      ·
        refine j_iconst C0 (v := 0) dX7_ship_34 (by decide) ?_
        refine j_istore C0 (L' := [(0, .ref (ad 0)), (1, .int (a1)), (2, .int (a2)), (3, .int (a3)), (4, .int (a4)), (5, .int ((0 : Int32)))]) dX7_ship_35 (by decide) rfl ?_
        refine j_aload_n C0 dX7_ship_37 rfl ?_
        refine j_iload C0 dX7_ship_38 rfl ?_
        refine j_iconst C0 (v := 0) dX7_ship_40 (by decide) ?_
        refine j_iconst C0 (v := 5) dX7_ship_41 (by decide) ?_
        refine j_callSv C0 (k_X7_isIn hl (a4) ((0 : Int32)) ((5 : Int32)) ) ms_X7_isIn wm_X7_78 rfl rfl ⟨Nat.le_of_ble_eq_true rfl, Nat.le_of_ble_eq_true rfl⟩ (Nat.le_of_ble_eq_true rfl) ⟨Nat.le_refl _, Nat.le_refl _⟩ dX7_ship_42 ?_
        refine j_if_ne C0 52 dX7_ship_45 (by decide) (fun (q12 : ¬ ((vX7_isIn (a4) ((0 : Int32)) ((5 : Int32))) = 0)) => ?_) (fun (q12 : (vX7_isIn (a4) ((0 : Int32)) ((5 : Int32))) = 0) => ?_)
        ·
          refine j_iload C0 dX7_ship_52 rfl ?_
          refine j_if_ne C0 61 dX7_ship_54 (by decide) (fun z => absurd (by decide) z) (fun _ => ?_)
          refine j_iconst C0 (v := 2) dX7_ship_57 (by decide) ?_
          refine j_goto C0 75 dX7_ship_58 (by decide) ?_
          refine j_callVv C0 (k_X7_holds hl ad F G ((2 : Int32)) ) mv_X7_holds wm_X7_85 (r_recv C0) rfl rfl ⟨Nat.le_of_ble_eq_true rfl, Nat.le_of_ble_eq_true rfl⟩ (Nat.le_of_ble_eq_true rfl) ⟨Nat.le_refl _, Nat.le_refl _⟩ dX7_ship_75 ?_
          refine j_top (0 : Int32) (by unfold vX7_holds; decide +kernel) ?_
          show J p l e _ s m args below meth c A 6 _ (OV D Y A ad (2 : Int32) (F 1) (F 5) (F 18) (F 19) (F 20) (G 2) (G 3) (G 4) (G 6) (G 7) (G 8) (G 9) (G 10) (G 11) (G 12) (G 13) (G 14) (G 15) (G 16) (G 17) (G 21) (G 22) (G 23) (G 24) (G 25)) 0 0 78 [(0, .ref (ad 0)), (1, .int (a1)), (2, .int (a2)), (3, .int (a3)), (4, .int (a4)), (5, .int ((0 : Int32)))] [.int ((0 : Int32))]
          refine j_if_ne C0 83 dX7_ship_78 (by decide) (fun z => absurd (by decide) z) (fun _ => ?_)
          refine j_iconst C0 (v := 0) dX7_ship_81 (by decide) ?_
          exact j_iretE C0 rfl (by rw [vX7_ship, if_neg q1, if_neg q6, if_pos q11, if_neg q12]) dX7_ship_82 (fun H h => by rw [sX7_ship, if_neg q1, if_neg q6, if_pos q11, if_neg q12]; exact h)
        ·
          refine j_iconst C0 (v := 1) dX7_ship_48 (by decide) ?_
          refine j_goto C0 75 dX7_ship_49 (by decide) ?_
          refine j_callVv C0 (k_X7_holds hl ad F G ((1 : Int32)) ) mv_X7_holds wm_X7_85 (r_recv C0) rfl rfl ⟨Nat.le_of_ble_eq_true rfl, Nat.le_of_ble_eq_true rfl⟩ (Nat.le_of_ble_eq_true rfl) ⟨Nat.le_refl _, Nat.le_refl _⟩ dX7_ship_75 ?_
          refine j_top (0 : Int32) (by unfold vX7_holds; decide +kernel) ?_
          show J p l e _ s m args below meth c A 6 _ (OV D Y A ad (1 : Int32) (F 1) (F 5) (F 18) (F 19) (F 20) (G 2) (G 3) (G 4) (G 6) (G 7) (G 8) (G 9) (G 10) (G 11) (G 12) (G 13) (G 14) (G 15) (G 16) (G 17) (G 21) (G 22) (G 23) (G 24) (G 25)) 0 0 78 [(0, .ref (ad 0)), (1, .int (a1)), (2, .int (a2)), (3, .int (a3)), (4, .int (a4)), (5, .int ((0 : Int32)))] [.int ((0 : Int32))]
          refine j_if_ne C0 83 dX7_ship_78 (by decide) (fun z => absurd (by decide) z) (fun _ => ?_)
          refine j_iconst C0 (v := 0) dX7_ship_81 (by decide) ?_
          exact j_iretE C0 rfl (by rw [vX7_ship, if_neg q1, if_neg q6, if_pos q11, if_pos q12]) dX7_ship_82 (fun H h => by rw [sX7_ship, if_neg q1, if_neg q6, if_pos q11, if_pos q12]; exact h)
      ·
        refine j_iconst C0 (v := 1) dX7_ship_30 (by decide) ?_
        refine j_goto C0 35 dX7_ship_31 (by decide) ?_
        refine j_istore C0 (L' := [(0, .ref (ad 0)), (1, .int (a1)), (2, .int (a2)), (3, .int (a3)), (4, .int (a4)), (5, .int ((1 : Int32)))]) dX7_ship_35 (by decide) rfl ?_
        refine j_aload_n C0 dX7_ship_37 rfl ?_
        refine j_iload C0 dX7_ship_38 rfl ?_
        refine j_iconst C0 (v := 0) dX7_ship_40 (by decide) ?_
        refine j_iconst C0 (v := 5) dX7_ship_41 (by decide) ?_
        refine j_callSv C0 (k_X7_isIn hl (a4) ((0 : Int32)) ((5 : Int32)) ) ms_X7_isIn wm_X7_78 rfl rfl ⟨Nat.le_of_ble_eq_true rfl, Nat.le_of_ble_eq_true rfl⟩ (Nat.le_of_ble_eq_true rfl) ⟨Nat.le_refl _, Nat.le_refl _⟩ dX7_ship_42 ?_
        refine j_if_ne C0 52 dX7_ship_45 (by decide) (fun (q16 : ¬ ((vX7_isIn (a4) ((0 : Int32)) ((5 : Int32))) = 0)) => ?_) (fun (q16 : (vX7_isIn (a4) ((0 : Int32)) ((5 : Int32))) = 0) => ?_)
        ·
          refine j_iload C0 dX7_ship_52 rfl ?_
          refine j_if_ne C0 61 dX7_ship_54 (by decide) (fun _ => ?_) (fun z => absurd z (by decide))
          refine j_aload_n C0 dX7_ship_61 rfl ?_
          refine r_gf_5 C0 (v := (F 5)) dX7_ship_62 rfl ?_
          refine j_bipush C0 (v := 30) dX7_ship_65 (by decide) ?_
          refine j_icmp_ne C0 74 dX7_ship_67 (by decide) (fun (q18 : ¬ ((F 5) = (30 : Int32))) => ?_) (fun (q18 : (F 5) = (30 : Int32)) => ?_)
          ·
            refine j_iconst C0 (v := 0) dX7_ship_74 (by decide) ?_
            refine j_callVv C0 (k_X7_holds hl ad F G ((0 : Int32)) ) mv_X7_holds wm_X7_85 (r_recv C0) rfl rfl ⟨Nat.le_of_ble_eq_true rfl, Nat.le_of_ble_eq_true rfl⟩ (Nat.le_of_ble_eq_true rfl) ⟨Nat.le_refl _, Nat.le_refl _⟩ dX7_ship_75 ?_
            refine j_top (1 : Int32) (by unfold vX7_holds; decide +kernel) ?_
            show J p l e _ s m args below meth c A 6 _ (OV D Y A ad (0 : Int32) (F 1) (F 5) (F 18) (F 19) (F 20) (G 2) (G 3) (G 4) (G 6) (G 7) (G 8) (G 9) (G 10) (G 11) (G 12) (G 13) (G 14) (G 15) (G 16) (G 17) (G 21) (G 22) (G 23) (G 24) (G 25)) 0 0 78 [(0, .ref (ad 0)), (1, .int (a1)), (2, .int (a2)), (3, .int (a3)), (4, .int (a4)), (5, .int ((1 : Int32)))] [.int ((1 : Int32))]
            refine j_if_ne C0 83 dX7_ship_78 (by decide) (fun _ => ?_) (fun z => absurd z (by decide))
            refine j_aload_n C0 dX7_ship_83 rfl ?_
            refine r_gf_6 C0 dX7_ship_84 ?_
            refine j_aload_n C0 dX7_ship_87 rfl ?_
            refine r_gf_5 C0 (v := (F 5)) dX7_ship_88 rfl ?_
            refine j_iload_n C0 dX7_ship_91 rfl ?_
            refine r_st_6 C0 (shp_in hs q18) dX7_ship_92 ?_
            refine j_aload_n C0 dX7_ship_93 rfl ?_
            refine r_gf_7 C0 dX7_ship_94 ?_
            refine j_aload_n C0 dX7_ship_97 rfl ?_
            refine r_gf_5 C0 (v := (F 5)) dX7_ship_98 rfl ?_
            refine j_iload_n C0 dX7_ship_101 rfl ?_
            refine r_st_7 C0 (shp_in hs q18) dX7_ship_102 ?_
            refine j_aload_n C0 dX7_ship_103 rfl ?_
            refine r_gf_8 C0 dX7_ship_104 ?_
            refine j_aload_n C0 dX7_ship_107 rfl ?_
            refine r_gf_5 C0 (v := (F 5)) dX7_ship_108 rfl ?_
            refine j_iload_n C0 dX7_ship_111 rfl ?_
            refine r_st_8 C0 (shp_in hs q18) dX7_ship_112 ?_
            refine j_aload_n C0 dX7_ship_113 rfl ?_
            refine r_gf_9 C0 dX7_ship_114 ?_
            refine j_aload_n C0 dX7_ship_117 rfl ?_
            refine r_gf_5 C0 (v := (F 5)) dX7_ship_118 rfl ?_
            refine j_iload C0 dX7_ship_121 rfl ?_
            refine r_st_9 C0 (shp_in hs q18) dX7_ship_123 ?_
            refine j_aload_n C0 dX7_ship_124 rfl ?_
            refine r_gf_11 C0 dX7_ship_125 ?_
            refine j_aload_n C0 dX7_ship_128 rfl ?_
            refine r_gf_5 C0 (v := (F 5)) dX7_ship_129 rfl ?_
            refine j_iconst C0 (v := -1) dX7_ship_132 (by decide) ?_
            refine r_st_11 C0 (shp_in hs q18) dX7_ship_133 ?_
            refine j_aload_n C0 dX7_ship_134 rfl ?_
            refine j_dup C0 dX7_ship_135 rfl ?_
            refine r_gf_5 C0 (v := (F 5)) dX7_ship_136 rfl ?_
            refine j_iconst C0 (v := 1) dX7_ship_139 (by decide) ?_
            refine j_iadd C0 dX7_ship_140 ?_
            refine r_pf_5 C0 dX7_ship_141 ?_
            refine j_aload_n C0 dX7_ship_144 rfl ?_
            refine r_gf_5 C0 (v := ((F 5) + (1 : Int32))) dX7_ship_145 rfl ?_
            refine j_iconst C0 (v := 1) dX7_ship_148 (by decide) ?_
            refine j_isub C0 dX7_ship_149 ?_
            exact j_iretE C0 rfl (by rw [vX7_ship, if_neg q1, if_neg q6, if_neg q11, if_neg q16, if_neg q18]) dX7_ship_150 (fun H h => by rw [sX7_ship, if_neg q1, if_neg q6, if_neg q11, if_neg q16, if_neg q18]; exact h)
          ·
            refine j_iconst C0 (v := 3) dX7_ship_70 (by decide) ?_
            refine j_goto C0 75 dX7_ship_71 (by decide) ?_
            refine j_callVv C0 (k_X7_holds hl ad F G ((3 : Int32)) ) mv_X7_holds wm_X7_85 (r_recv C0) rfl rfl ⟨Nat.le_of_ble_eq_true rfl, Nat.le_of_ble_eq_true rfl⟩ (Nat.le_of_ble_eq_true rfl) ⟨Nat.le_refl _, Nat.le_refl _⟩ dX7_ship_75 ?_
            refine j_top (0 : Int32) (by unfold vX7_holds; decide +kernel) ?_
            show J p l e _ s m args below meth c A 6 _ (OV D Y A ad (3 : Int32) (F 1) (F 5) (F 18) (F 19) (F 20) (G 2) (G 3) (G 4) (G 6) (G 7) (G 8) (G 9) (G 10) (G 11) (G 12) (G 13) (G 14) (G 15) (G 16) (G 17) (G 21) (G 22) (G 23) (G 24) (G 25)) 0 0 78 [(0, .ref (ad 0)), (1, .int (a1)), (2, .int (a2)), (3, .int (a3)), (4, .int (a4)), (5, .int ((1 : Int32)))] [.int ((0 : Int32))]
            refine j_if_ne C0 83 dX7_ship_78 (by decide) (fun z => absurd (by decide) z) (fun _ => ?_)
            refine j_iconst C0 (v := 0) dX7_ship_81 (by decide) ?_
            exact j_iretE C0 rfl (by rw [vX7_ship, if_neg q1, if_neg q6, if_neg q11, if_neg q16, if_pos q18]) dX7_ship_82 (fun H h => by rw [sX7_ship, if_neg q1, if_neg q6, if_neg q11, if_neg q16, if_pos q18]; exact h)
        ·
          refine j_iconst C0 (v := 1) dX7_ship_48 (by decide) ?_
          refine j_goto C0 75 dX7_ship_49 (by decide) ?_
          refine j_callVv C0 (k_X7_holds hl ad F G ((1 : Int32)) ) mv_X7_holds wm_X7_85 (r_recv C0) rfl rfl ⟨Nat.le_of_ble_eq_true rfl, Nat.le_of_ble_eq_true rfl⟩ (Nat.le_of_ble_eq_true rfl) ⟨Nat.le_refl _, Nat.le_refl _⟩ dX7_ship_75 ?_
          refine j_top (0 : Int32) (by unfold vX7_holds; decide +kernel) ?_
          show J p l e _ s m args below meth c A 6 _ (OV D Y A ad (1 : Int32) (F 1) (F 5) (F 18) (F 19) (F 20) (G 2) (G 3) (G 4) (G 6) (G 7) (G 8) (G 9) (G 10) (G 11) (G 12) (G 13) (G 14) (G 15) (G 16) (G 17) (G 21) (G 22) (G 23) (G 24) (G 25)) 0 0 78 [(0, .ref (ad 0)), (1, .int (a1)), (2, .int (a2)), (3, .int (a3)), (4, .int (a4)), (5, .int ((1 : Int32)))] [.int ((0 : Int32))]
          refine j_if_ne C0 83 dX7_ship_78 (by decide) (fun z => absurd (by decide) z) (fun _ => ?_)
          refine j_iconst C0 (v := 0) dX7_ship_81 (by decide) ?_
          exact j_iretE C0 rfl (by rw [vX7_ship, if_neg q1, if_neg q6, if_neg q11, if_pos q16]) dX7_ship_82 (fun H h => by rw [sX7_ship, if_neg q1, if_neg q6, if_neg q11, if_pos q16]; exact h)
/-! ## order(II)I -/
def vX7_order (F : Nat → Int32) (G : Nat → Nat → Int32) (a1 : Int32) (a2 : Int32) : Int32 := (if (vX7_isShip F G (a1)) = 0 then (0 : Int32) else (if ((G 10) (a1).toNatClampNeg) = 0 then (if ((G 11) (a1).toNatClampNeg) = (-1 : Int32) then (if (vX7_isIn (a2) (((F 1) + (1 : Int32))) ((3000 : Int32))) = 0 then (0 : Int32) else (vX7_ordered (hu F 0 (0 : Int32)) (hu G 11 (upd (G 11) (a1).toNatClampNeg (a2))))) else (if (vX7_isIn (a2) (((F 1) + (1 : Int32))) ((3000 : Int32))) = 0 then (0 : Int32) else (0 : Int32))) else (if ((G 10) (a1).toNatClampNeg) = (2 : Int32) then (if ((G 11) (a1).toNatClampNeg) = (-1 : Int32) then (if (vX7_isIn (a2) (((F 1) + (1 : Int32))) ((3000 : Int32))) = 0 then (0 : Int32) else (vX7_ordered (hu F 0 (0 : Int32)) (hu G 11 (upd (G 11) (a1).toNatClampNeg (a2))))) else (if (vX7_isIn (a2) (((F 1) + (1 : Int32))) ((3000 : Int32))) = 0 then (0 : Int32) else (0 : Int32))) else (if (vX7_isIn (a2) (((F 1) + (1 : Int32))) ((3000 : Int32))) = 0 then (0 : Int32) else (0 : Int32)))))
def sX7_order (F : Nat → Int32) (G : Nat → Nat → Int32) (a1 : Int32) (a2 : Int32) : (Nat → Int32) × (Nat → Nat → Int32) := (if (vX7_isShip F G (a1)) = 0 then ((hu F 0 (1 : Int32)), G) else (if ((G 10) (a1).toNatClampNeg) = 0 then (if ((G 11) (a1).toNatClampNeg) = (-1 : Int32) then (if (vX7_isIn (a2) (((F 1) + (1 : Int32))) ((3000 : Int32))) = 0 then ((hu F 0 (2 : Int32)), G) else ((hu F 0 (0 : Int32)), (hu G 11 (upd (G 11) (a1).toNatClampNeg (a2))))) else (if (vX7_isIn (a2) (((F 1) + (1 : Int32))) ((3000 : Int32))) = 0 then ((hu F 0 (2 : Int32)), G) else ((hu F 0 (3 : Int32)), G))) else (if ((G 10) (a1).toNatClampNeg) = (2 : Int32) then (if ((G 11) (a1).toNatClampNeg) = (-1 : Int32) then (if (vX7_isIn (a2) (((F 1) + (1 : Int32))) ((3000 : Int32))) = 0 then ((hu F 0 (2 : Int32)), G) else ((hu F 0 (0 : Int32)), (hu G 11 (upd (G 11) (a1).toNatClampNeg (a2))))) else (if (vX7_isIn (a2) (((F 1) + (1 : Int32))) ((3000 : Int32))) = 0 then ((hu F 0 (2 : Int32)), G) else ((hu F 0 (3 : Int32)), G))) else (if (vX7_isIn (a2) (((F 1) + (1 : Int32))) ((3000 : Int32))) = 0 then ((hu F 0 (2 : Int32)), G) else ((hu F 0 (3 : Int32)), G)))))
set_option maxRecDepth 100000 in
set_option maxHeartbeats 4000000 in
theorem k_X7_order {l : Launch} (hl : l.stackTraces = false) {D : va_G} {Y : Nat → ClassId} {A : Nat → Prop} {E : State → Prop} (ad : Nat → Nat) (F : Nat → Int32) (G : Nat → Nat → Int32) (a1 : Int32) (a2 : Int32) (hI : RI F G) : KM l yX7_order cX7_order 5 (some .int) D Y A E 2 43 0 0 [.ref (ad 0), .int (a1), .int (a2)] (OR D Y A ad F G) (some (.int (vX7_order F G a1 a2))) (OR D Y A ad (sX7_order F G a1 a2).1 (sX7_order F G a1 a2).2) := by
  refine KM_of RX7 [(0, .ref (ad 0)), (1, .int (a1)), (2, .int (a2))] rfl (by decide) hl (Nat.le_of_ble_eq_true rfl) rfl (lok_of rfl rfl) ?_
  intro p e s m args below meth c C0
  obtain ⟨hn, hs, hm, hb, hw, hr⟩ := id hI
  refine j_aload_n C0 dX7_order_0 rfl ?_
  refine j_iload_n C0 dX7_order_1 rfl ?_
  refine j_callVv C0 (k_X7_isShip hl ad F G (a1) ) mv_X7_isShip wm_X7_99 (r_recv C0) rfl rfl ⟨Nat.le_of_ble_eq_true rfl, Nat.le_of_ble_eq_true rfl⟩ (Nat.le_of_ble_eq_true rfl) ⟨Nat.le_refl _, Nat.le_refl _⟩ dX7_order_2 ?_
  refine j_istore_n C0 (L' := [(0, .ref (ad 0)), (1, .int (a1)), (2, .int (a2)), (3, .int ((vX7_isShip F G (a1))))]) dX7_order_5 (by decide) rfl ?_
  refine j_iload_n C0 dX7_order_6 rfl ?_
  refine j_if_eq C0 43 dX7_order_7 (by decide) (fun (q1 : (vX7_isShip F G (a1)) = 0) => ?_) (fun (q1 : ¬ ((vX7_isShip F G (a1)) = 0)) => ?_)
  ·
    refine j_iconst C0 (v := 0) dX7_order_43 (by decide) ?_
    refine j_istore C0 (L' := [(0, .ref (ad 0)), (1, .int (a1)), (2, .int (a2)), (3, .int ((vX7_isShip F G (a1)))), (4, .int ((0 : Int32)))]) dX7_order_44 (by decide) rfl ?_
    refine j_aload_n C0 dX7_order_46 rfl ?_
    refine j_iload_n C0 dX7_order_47 rfl ?_
    refine j_if_ne C0 55 dX7_order_48 (by decide) (fun z => absurd q1 z) (fun _ => ?_)
    refine j_iconst C0 (v := 1) dX7_order_51 (by decide) ?_
    refine j_goto C0 85 dX7_order_52 (by decide) ?_
    refine j_callVv C0 (k_X7_holds hl ad F G ((1 : Int32)) ) mv_X7_holds wm_X7_85 (r_recv C0) rfl rfl ⟨Nat.le_of_ble_eq_true rfl, Nat.le_of_ble_eq_true rfl⟩ (Nat.le_of_ble_eq_true rfl) ⟨Nat.le_refl _, Nat.le_refl _⟩ dX7_order_85 ?_
    refine j_top (0 : Int32) (by unfold vX7_holds; decide +kernel) ?_
    show J p l e _ s m args below meth c A 5 _ (OV D Y A ad (1 : Int32) (F 1) (F 5) (F 18) (F 19) (F 20) (G 2) (G 3) (G 4) (G 6) (G 7) (G 8) (G 9) (G 10) (G 11) (G 12) (G 13) (G 14) (G 15) (G 16) (G 17) (G 21) (G 22) (G 23) (G 24) (G 25)) 0 0 88 [(0, .ref (ad 0)), (1, .int (a1)), (2, .int (a2)), (3, .int ((vX7_isShip F G (a1)))), (4, .int ((0 : Int32)))] [.int ((0 : Int32))]
    refine j_if_ne C0 93 dX7_order_88 (by decide) (fun z => absurd (by decide) z) (fun _ => ?_)
    refine j_iconst C0 (v := 0) dX7_order_91 (by decide) ?_
    exact j_iretE C0 rfl (by rw [vX7_order, if_pos q1]) dX7_order_92 (fun H h => by rw [sX7_order, if_pos q1]; exact h)
  ·
    refine j_aload_n C0 dX7_order_10 rfl ?_
    refine r_gf_10 C0 dX7_order_11 ?_
    refine j_iload_n C0 dX7_order_14 rfl ?_
    refine r_ld_10 C0 (v := ((G 10) (a1).toNatClampNeg)) (isShip_vp hs q1) dX7_order_15 rfl ?_
    refine j_if_eq C0 29 dX7_order_16 (by decide) (fun (q4 : ((G 10) (a1).toNatClampNeg) = 0) => ?_) (fun (q4 : ¬ (((G 10) (a1).toNatClampNeg) = 0)) => ?_)
    ·
      refine j_aload_n C0 dX7_order_29 rfl ?_
      refine r_gf_11 C0 dX7_order_30 ?_
      refine j_iload_n C0 dX7_order_33 rfl ?_
      refine r_ld_11 C0 (v := ((G 11) (a1).toNatClampNeg)) (isShip_vp hs q1) dX7_order_34 rfl ?_
      refine j_iconst C0 (v := -1) dX7_order_35 (by decide) ?_
      refine j_icmp_ne C0 43 dX7_order_36 (by decide) (fun (q5 : ¬ (((G 11) (a1).toNatClampNeg) = (-1 : Int32))) => ?_) (fun (q5 : ((G 11) (a1).toNatClampNeg) = (-1 : Int32)) => ?_)
      ·
        refine j_iconst C0 (v := 0) dX7_order_43 (by decide) ?_
        refine j_istore C0 (L' := [(0, .ref (ad 0)), (1, .int (a1)), (2, .int (a2)), (3, .int ((vX7_isShip F G (a1)))), (4, .int ((0 : Int32)))]) dX7_order_44 (by decide) rfl ?_
        refine j_aload_n C0 dX7_order_46 rfl ?_
        refine j_iload_n C0 dX7_order_47 rfl ?_
        refine j_if_ne C0 55 dX7_order_48 (by decide) (fun _ => ?_) (fun z => absurd z q1)
        refine j_iload_n C0 dX7_order_55 rfl ?_
        refine j_aload_n C0 dX7_order_56 rfl ?_
        refine r_gf_1 C0 (v := (F 1)) dX7_order_57 rfl ?_
        refine j_iconst C0 (v := 1) dX7_order_60 (by decide) ?_
        refine j_iadd C0 dX7_order_61 ?_
        refine j_sipush C0 (v := 3000) dX7_order_62 (by decide) ?_
        refine j_callSv C0 (k_X7_isIn hl (a2) (((F 1) + (1 : Int32))) ((3000 : Int32)) ) ms_X7_isIn wm_X7_78 rfl rfl ⟨Nat.le_of_ble_eq_true rfl, Nat.le_of_ble_eq_true rfl⟩ (Nat.le_of_ble_eq_true rfl) ⟨Nat.le_refl _, Nat.le_refl _⟩ dX7_order_65 ?_
        refine j_if_ne C0 75 dX7_order_68 (by decide) (fun (q7 : ¬ ((vX7_isIn (a2) (((F 1) + (1 : Int32))) ((3000 : Int32))) = 0)) => ?_) (fun (q7 : (vX7_isIn (a2) (((F 1) + (1 : Int32))) ((3000 : Int32))) = 0) => ?_)
        ·
          refine j_iload C0 dX7_order_75 rfl ?_
          refine j_if_eq C0 84 dX7_order_77 (by decide) (fun _ => ?_) (fun z => absurd (by decide) z)
          refine j_iconst C0 (v := 3) dX7_order_84 (by decide) ?_
          refine j_callVv C0 (k_X7_holds hl ad F G ((3 : Int32)) ) mv_X7_holds wm_X7_85 (r_recv C0) rfl rfl ⟨Nat.le_of_ble_eq_true rfl, Nat.le_of_ble_eq_true rfl⟩ (Nat.le_of_ble_eq_true rfl) ⟨Nat.le_refl _, Nat.le_refl _⟩ dX7_order_85 ?_
          refine j_top (0 : Int32) (by unfold vX7_holds; decide +kernel) ?_
          show J p l e _ s m args below meth c A 5 _ (OV D Y A ad (3 : Int32) (F 1) (F 5) (F 18) (F 19) (F 20) (G 2) (G 3) (G 4) (G 6) (G 7) (G 8) (G 9) (G 10) (G 11) (G 12) (G 13) (G 14) (G 15) (G 16) (G 17) (G 21) (G 22) (G 23) (G 24) (G 25)) 0 0 88 [(0, .ref (ad 0)), (1, .int (a1)), (2, .int (a2)), (3, .int ((vX7_isShip F G (a1)))), (4, .int ((0 : Int32)))] [.int ((0 : Int32))]
          refine j_if_ne C0 93 dX7_order_88 (by decide) (fun z => absurd (by decide) z) (fun _ => ?_)
          refine j_iconst C0 (v := 0) dX7_order_91 (by decide) ?_
          exact j_iretE C0 rfl (by rw [vX7_order, if_neg q1, if_pos q4, if_neg q5, if_neg q7]) dX7_order_92 (fun H h => by rw [sX7_order, if_neg q1, if_pos q4, if_neg q5, if_neg q7]; exact h)
        ·
          refine j_iconst C0 (v := 2) dX7_order_71 (by decide) ?_
          refine j_goto C0 85 dX7_order_72 (by decide) ?_
          refine j_callVv C0 (k_X7_holds hl ad F G ((2 : Int32)) ) mv_X7_holds wm_X7_85 (r_recv C0) rfl rfl ⟨Nat.le_of_ble_eq_true rfl, Nat.le_of_ble_eq_true rfl⟩ (Nat.le_of_ble_eq_true rfl) ⟨Nat.le_refl _, Nat.le_refl _⟩ dX7_order_85 ?_
          refine j_top (0 : Int32) (by unfold vX7_holds; decide +kernel) ?_
          show J p l e _ s m args below meth c A 5 _ (OV D Y A ad (2 : Int32) (F 1) (F 5) (F 18) (F 19) (F 20) (G 2) (G 3) (G 4) (G 6) (G 7) (G 8) (G 9) (G 10) (G 11) (G 12) (G 13) (G 14) (G 15) (G 16) (G 17) (G 21) (G 22) (G 23) (G 24) (G 25)) 0 0 88 [(0, .ref (ad 0)), (1, .int (a1)), (2, .int (a2)), (3, .int ((vX7_isShip F G (a1)))), (4, .int ((0 : Int32)))] [.int ((0 : Int32))]
          refine j_if_ne C0 93 dX7_order_88 (by decide) (fun z => absurd (by decide) z) (fun _ => ?_)
          refine j_iconst C0 (v := 0) dX7_order_91 (by decide) ?_
          exact j_iretE C0 rfl (by rw [vX7_order, if_neg q1, if_pos q4, if_neg q5, if_pos q7]) dX7_order_92 (fun H h => by rw [sX7_order, if_neg q1, if_pos q4, if_neg q5, if_pos q7]; exact h)
      ·
        refine j_iconst C0 (v := 1) dX7_order_39 (by decide) ?_
        refine j_goto C0 44 dX7_order_40 (by decide) ?_
        refine j_istore C0 (L' := [(0, .ref (ad 0)), (1, .int (a1)), (2, .int (a2)), (3, .int ((vX7_isShip F G (a1)))), (4, .int ((1 : Int32)))]) dX7_order_44 (by decide) rfl ?_
        refine j_aload_n C0 dX7_order_46 rfl ?_
        refine j_iload_n C0 dX7_order_47 rfl ?_
        refine j_if_ne C0 55 dX7_order_48 (by decide) (fun _ => ?_) (fun z => absurd z q1)
        refine j_iload_n C0 dX7_order_55 rfl ?_
        refine j_aload_n C0 dX7_order_56 rfl ?_
        refine r_gf_1 C0 (v := (F 1)) dX7_order_57 rfl ?_
        refine j_iconst C0 (v := 1) dX7_order_60 (by decide) ?_
        refine j_iadd C0 dX7_order_61 ?_
        refine j_sipush C0 (v := 3000) dX7_order_62 (by decide) ?_
        refine j_callSv C0 (k_X7_isIn hl (a2) (((F 1) + (1 : Int32))) ((3000 : Int32)) ) ms_X7_isIn wm_X7_78 rfl rfl ⟨Nat.le_of_ble_eq_true rfl, Nat.le_of_ble_eq_true rfl⟩ (Nat.le_of_ble_eq_true rfl) ⟨Nat.le_refl _, Nat.le_refl _⟩ dX7_order_65 ?_
        refine j_if_ne C0 75 dX7_order_68 (by decide) (fun (q12 : ¬ ((vX7_isIn (a2) (((F 1) + (1 : Int32))) ((3000 : Int32))) = 0)) => ?_) (fun (q12 : (vX7_isIn (a2) (((F 1) + (1 : Int32))) ((3000 : Int32))) = 0) => ?_)
        ·
          refine j_iload C0 dX7_order_75 rfl ?_
          refine j_if_eq C0 84 dX7_order_77 (by decide) (fun z => absurd z (by decide)) (fun _ => ?_)
          refine j_iconst C0 (v := 0) dX7_order_80 (by decide) ?_
          refine j_goto C0 85 dX7_order_81 (by decide) ?_
          refine j_callVv C0 (k_X7_holds hl ad F G ((0 : Int32)) ) mv_X7_holds wm_X7_85 (r_recv C0) rfl rfl ⟨Nat.le_of_ble_eq_true rfl, Nat.le_of_ble_eq_true rfl⟩ (Nat.le_of_ble_eq_true rfl) ⟨Nat.le_refl _, Nat.le_refl _⟩ dX7_order_85 ?_
          refine j_top (1 : Int32) (by unfold vX7_holds; decide +kernel) ?_
          show J p l e _ s m args below meth c A 5 _ (OV D Y A ad (0 : Int32) (F 1) (F 5) (F 18) (F 19) (F 20) (G 2) (G 3) (G 4) (G 6) (G 7) (G 8) (G 9) (G 10) (G 11) (G 12) (G 13) (G 14) (G 15) (G 16) (G 17) (G 21) (G 22) (G 23) (G 24) (G 25)) 0 0 88 [(0, .ref (ad 0)), (1, .int (a1)), (2, .int (a2)), (3, .int ((vX7_isShip F G (a1)))), (4, .int ((1 : Int32)))] [.int ((1 : Int32))]
          refine j_if_ne C0 93 dX7_order_88 (by decide) (fun _ => ?_) (fun z => absurd z (by decide))
          refine j_aload_n C0 dX7_order_93 rfl ?_
          refine r_gf_11 C0 dX7_order_94 ?_
          refine j_iload_n C0 dX7_order_97 rfl ?_
          refine j_iload_n C0 dX7_order_98 rfl ?_
          refine r_st_11 C0 (isShip_vp hs q1) dX7_order_99 ?_
          refine j_aload_n C0 dX7_order_100 rfl ?_
          refine j_callVv C0 (k_X7_ordered hl ad (hu F 0 (0 : Int32)) (hu G 11 (upd (G 11) (a1).toNatClampNeg (a2)))  hs) mv_X7_ordered wm_X7_102 (r_recv C0) rfl rfl ⟨Nat.le_of_ble_eq_true rfl, Nat.le_of_ble_eq_true rfl⟩ (Nat.le_of_ble_eq_true rfl) ⟨Nat.le_refl _, Nat.le_refl _⟩ dX7_order_101 ?_
          exact j_iretE C0 rfl (by rw [vX7_order, if_neg q1, if_pos q4, if_pos q5, if_neg q12]) dX7_order_104 (fun H h => by rw [sX7_order, if_neg q1, if_pos q4, if_pos q5, if_neg q12]; exact h)
        ·
          refine j_iconst C0 (v := 2) dX7_order_71 (by decide) ?_
          refine j_goto C0 85 dX7_order_72 (by decide) ?_
          refine j_callVv C0 (k_X7_holds hl ad F G ((2 : Int32)) ) mv_X7_holds wm_X7_85 (r_recv C0) rfl rfl ⟨Nat.le_of_ble_eq_true rfl, Nat.le_of_ble_eq_true rfl⟩ (Nat.le_of_ble_eq_true rfl) ⟨Nat.le_refl _, Nat.le_refl _⟩ dX7_order_85 ?_
          refine j_top (0 : Int32) (by unfold vX7_holds; decide +kernel) ?_
          show J p l e _ s m args below meth c A 5 _ (OV D Y A ad (2 : Int32) (F 1) (F 5) (F 18) (F 19) (F 20) (G 2) (G 3) (G 4) (G 6) (G 7) (G 8) (G 9) (G 10) (G 11) (G 12) (G 13) (G 14) (G 15) (G 16) (G 17) (G 21) (G 22) (G 23) (G 24) (G 25)) 0 0 88 [(0, .ref (ad 0)), (1, .int (a1)), (2, .int (a2)), (3, .int ((vX7_isShip F G (a1)))), (4, .int ((1 : Int32)))] [.int ((0 : Int32))]
          refine j_if_ne C0 93 dX7_order_88 (by decide) (fun z => absurd (by decide) z) (fun _ => ?_)
          refine j_iconst C0 (v := 0) dX7_order_91 (by decide) ?_
          exact j_iretE C0 rfl (by rw [vX7_order, if_neg q1, if_pos q4, if_pos q5, if_pos q12]) dX7_order_92 (fun H h => by rw [sX7_order, if_neg q1, if_pos q4, if_pos q5, if_pos q12]; exact h)
    ·
      refine j_aload_n C0 dX7_order_19 rfl ?_
      refine r_gf_10 C0 dX7_order_20 ?_
      refine j_iload_n C0 dX7_order_23 rfl ?_
      refine r_ld_10 C0 (v := ((G 10) (a1).toNatClampNeg)) (isShip_vp hs q1) dX7_order_24 rfl ?_
      refine j_iconst C0 (v := 2) dX7_order_25 (by decide) ?_
      refine j_icmp_ne C0 43 dX7_order_26 (by decide) (fun (q16 : ¬ (((G 10) (a1).toNatClampNeg) = (2 : Int32))) => ?_) (fun (q16 : ((G 10) (a1).toNatClampNeg) = (2 : Int32)) => ?_)
      ·
        refine j_iconst C0 (v := 0) dX7_order_43 (by decide) ?_
        refine j_istore C0 (L' := [(0, .ref (ad 0)), (1, .int (a1)), (2, .int (a2)), (3, .int ((vX7_isShip F G (a1)))), (4, .int ((0 : Int32)))]) dX7_order_44 (by decide) rfl ?_
        refine j_aload_n C0 dX7_order_46 rfl ?_
        refine j_iload_n C0 dX7_order_47 rfl ?_
        refine j_if_ne C0 55 dX7_order_48 (by decide) (fun _ => ?_) (fun z => absurd z q1)
        refine j_iload_n C0 dX7_order_55 rfl ?_
        refine j_aload_n C0 dX7_order_56 rfl ?_
        refine r_gf_1 C0 (v := (F 1)) dX7_order_57 rfl ?_
        refine j_iconst C0 (v := 1) dX7_order_60 (by decide) ?_
        refine j_iadd C0 dX7_order_61 ?_
        refine j_sipush C0 (v := 3000) dX7_order_62 (by decide) ?_
        refine j_callSv C0 (k_X7_isIn hl (a2) (((F 1) + (1 : Int32))) ((3000 : Int32)) ) ms_X7_isIn wm_X7_78 rfl rfl ⟨Nat.le_of_ble_eq_true rfl, Nat.le_of_ble_eq_true rfl⟩ (Nat.le_of_ble_eq_true rfl) ⟨Nat.le_refl _, Nat.le_refl _⟩ dX7_order_65 ?_
        refine j_if_ne C0 75 dX7_order_68 (by decide) (fun (q18 : ¬ ((vX7_isIn (a2) (((F 1) + (1 : Int32))) ((3000 : Int32))) = 0)) => ?_) (fun (q18 : (vX7_isIn (a2) (((F 1) + (1 : Int32))) ((3000 : Int32))) = 0) => ?_)
        ·
          refine j_iload C0 dX7_order_75 rfl ?_
          refine j_if_eq C0 84 dX7_order_77 (by decide) (fun _ => ?_) (fun z => absurd (by decide) z)
          refine j_iconst C0 (v := 3) dX7_order_84 (by decide) ?_
          refine j_callVv C0 (k_X7_holds hl ad F G ((3 : Int32)) ) mv_X7_holds wm_X7_85 (r_recv C0) rfl rfl ⟨Nat.le_of_ble_eq_true rfl, Nat.le_of_ble_eq_true rfl⟩ (Nat.le_of_ble_eq_true rfl) ⟨Nat.le_refl _, Nat.le_refl _⟩ dX7_order_85 ?_
          refine j_top (0 : Int32) (by unfold vX7_holds; decide +kernel) ?_
          show J p l e _ s m args below meth c A 5 _ (OV D Y A ad (3 : Int32) (F 1) (F 5) (F 18) (F 19) (F 20) (G 2) (G 3) (G 4) (G 6) (G 7) (G 8) (G 9) (G 10) (G 11) (G 12) (G 13) (G 14) (G 15) (G 16) (G 17) (G 21) (G 22) (G 23) (G 24) (G 25)) 0 0 88 [(0, .ref (ad 0)), (1, .int (a1)), (2, .int (a2)), (3, .int ((vX7_isShip F G (a1)))), (4, .int ((0 : Int32)))] [.int ((0 : Int32))]
          refine j_if_ne C0 93 dX7_order_88 (by decide) (fun z => absurd (by decide) z) (fun _ => ?_)
          refine j_iconst C0 (v := 0) dX7_order_91 (by decide) ?_
          exact j_iretE C0 rfl (by rw [vX7_order, if_neg q1, if_neg q4, if_neg q16, if_neg q18]) dX7_order_92 (fun H h => by rw [sX7_order, if_neg q1, if_neg q4, if_neg q16, if_neg q18]; exact h)
        ·
          refine j_iconst C0 (v := 2) dX7_order_71 (by decide) ?_
          refine j_goto C0 85 dX7_order_72 (by decide) ?_
          refine j_callVv C0 (k_X7_holds hl ad F G ((2 : Int32)) ) mv_X7_holds wm_X7_85 (r_recv C0) rfl rfl ⟨Nat.le_of_ble_eq_true rfl, Nat.le_of_ble_eq_true rfl⟩ (Nat.le_of_ble_eq_true rfl) ⟨Nat.le_refl _, Nat.le_refl _⟩ dX7_order_85 ?_
          refine j_top (0 : Int32) (by unfold vX7_holds; decide +kernel) ?_
          show J p l e _ s m args below meth c A 5 _ (OV D Y A ad (2 : Int32) (F 1) (F 5) (F 18) (F 19) (F 20) (G 2) (G 3) (G 4) (G 6) (G 7) (G 8) (G 9) (G 10) (G 11) (G 12) (G 13) (G 14) (G 15) (G 16) (G 17) (G 21) (G 22) (G 23) (G 24) (G 25)) 0 0 88 [(0, .ref (ad 0)), (1, .int (a1)), (2, .int (a2)), (3, .int ((vX7_isShip F G (a1)))), (4, .int ((0 : Int32)))] [.int ((0 : Int32))]
          refine j_if_ne C0 93 dX7_order_88 (by decide) (fun z => absurd (by decide) z) (fun _ => ?_)
          refine j_iconst C0 (v := 0) dX7_order_91 (by decide) ?_
          exact j_iretE C0 rfl (by rw [vX7_order, if_neg q1, if_neg q4, if_neg q16, if_pos q18]) dX7_order_92 (fun H h => by rw [sX7_order, if_neg q1, if_neg q4, if_neg q16, if_pos q18]; exact h)
      ·
        refine j_aload_n C0 dX7_order_29 rfl ?_
        refine r_gf_11 C0 dX7_order_30 ?_
        refine j_iload_n C0 dX7_order_33 rfl ?_
        refine r_ld_11 C0 (v := ((G 11) (a1).toNatClampNeg)) (isShip_vp hs q1) dX7_order_34 rfl ?_
        refine j_iconst C0 (v := -1) dX7_order_35 (by decide) ?_
        refine j_icmp_ne C0 43 dX7_order_36 (by decide) (fun (q22 : ¬ (((G 11) (a1).toNatClampNeg) = (-1 : Int32))) => ?_) (fun (q22 : ((G 11) (a1).toNatClampNeg) = (-1 : Int32)) => ?_)
        ·
          refine j_iconst C0 (v := 0) dX7_order_43 (by decide) ?_
          refine j_istore C0 (L' := [(0, .ref (ad 0)), (1, .int (a1)), (2, .int (a2)), (3, .int ((vX7_isShip F G (a1)))), (4, .int ((0 : Int32)))]) dX7_order_44 (by decide) rfl ?_
          refine j_aload_n C0 dX7_order_46 rfl ?_
          refine j_iload_n C0 dX7_order_47 rfl ?_
          refine j_if_ne C0 55 dX7_order_48 (by decide) (fun _ => ?_) (fun z => absurd z q1)
          refine j_iload_n C0 dX7_order_55 rfl ?_
          refine j_aload_n C0 dX7_order_56 rfl ?_
          refine r_gf_1 C0 (v := (F 1)) dX7_order_57 rfl ?_
          refine j_iconst C0 (v := 1) dX7_order_60 (by decide) ?_
          refine j_iadd C0 dX7_order_61 ?_
          refine j_sipush C0 (v := 3000) dX7_order_62 (by decide) ?_
          refine j_callSv C0 (k_X7_isIn hl (a2) (((F 1) + (1 : Int32))) ((3000 : Int32)) ) ms_X7_isIn wm_X7_78 rfl rfl ⟨Nat.le_of_ble_eq_true rfl, Nat.le_of_ble_eq_true rfl⟩ (Nat.le_of_ble_eq_true rfl) ⟨Nat.le_refl _, Nat.le_refl _⟩ dX7_order_65 ?_
          refine j_if_ne C0 75 dX7_order_68 (by decide) (fun (q24 : ¬ ((vX7_isIn (a2) (((F 1) + (1 : Int32))) ((3000 : Int32))) = 0)) => ?_) (fun (q24 : (vX7_isIn (a2) (((F 1) + (1 : Int32))) ((3000 : Int32))) = 0) => ?_)
          ·
            refine j_iload C0 dX7_order_75 rfl ?_
            refine j_if_eq C0 84 dX7_order_77 (by decide) (fun _ => ?_) (fun z => absurd (by decide) z)
            refine j_iconst C0 (v := 3) dX7_order_84 (by decide) ?_
            refine j_callVv C0 (k_X7_holds hl ad F G ((3 : Int32)) ) mv_X7_holds wm_X7_85 (r_recv C0) rfl rfl ⟨Nat.le_of_ble_eq_true rfl, Nat.le_of_ble_eq_true rfl⟩ (Nat.le_of_ble_eq_true rfl) ⟨Nat.le_refl _, Nat.le_refl _⟩ dX7_order_85 ?_
            refine j_top (0 : Int32) (by unfold vX7_holds; decide +kernel) ?_
            show J p l e _ s m args below meth c A 5 _ (OV D Y A ad (3 : Int32) (F 1) (F 5) (F 18) (F 19) (F 20) (G 2) (G 3) (G 4) (G 6) (G 7) (G 8) (G 9) (G 10) (G 11) (G 12) (G 13) (G 14) (G 15) (G 16) (G 17) (G 21) (G 22) (G 23) (G 24) (G 25)) 0 0 88 [(0, .ref (ad 0)), (1, .int (a1)), (2, .int (a2)), (3, .int ((vX7_isShip F G (a1)))), (4, .int ((0 : Int32)))] [.int ((0 : Int32))]
            refine j_if_ne C0 93 dX7_order_88 (by decide) (fun z => absurd (by decide) z) (fun _ => ?_)
            refine j_iconst C0 (v := 0) dX7_order_91 (by decide) ?_
            exact j_iretE C0 rfl (by rw [vX7_order, if_neg q1, if_neg q4, if_pos q16, if_neg q22, if_neg q24]) dX7_order_92 (fun H h => by rw [sX7_order, if_neg q1, if_neg q4, if_pos q16, if_neg q22, if_neg q24]; exact h)
          ·
            refine j_iconst C0 (v := 2) dX7_order_71 (by decide) ?_
            refine j_goto C0 85 dX7_order_72 (by decide) ?_
            refine j_callVv C0 (k_X7_holds hl ad F G ((2 : Int32)) ) mv_X7_holds wm_X7_85 (r_recv C0) rfl rfl ⟨Nat.le_of_ble_eq_true rfl, Nat.le_of_ble_eq_true rfl⟩ (Nat.le_of_ble_eq_true rfl) ⟨Nat.le_refl _, Nat.le_refl _⟩ dX7_order_85 ?_
            refine j_top (0 : Int32) (by unfold vX7_holds; decide +kernel) ?_
            show J p l e _ s m args below meth c A 5 _ (OV D Y A ad (2 : Int32) (F 1) (F 5) (F 18) (F 19) (F 20) (G 2) (G 3) (G 4) (G 6) (G 7) (G 8) (G 9) (G 10) (G 11) (G 12) (G 13) (G 14) (G 15) (G 16) (G 17) (G 21) (G 22) (G 23) (G 24) (G 25)) 0 0 88 [(0, .ref (ad 0)), (1, .int (a1)), (2, .int (a2)), (3, .int ((vX7_isShip F G (a1)))), (4, .int ((0 : Int32)))] [.int ((0 : Int32))]
            refine j_if_ne C0 93 dX7_order_88 (by decide) (fun z => absurd (by decide) z) (fun _ => ?_)
            refine j_iconst C0 (v := 0) dX7_order_91 (by decide) ?_
            exact j_iretE C0 rfl (by rw [vX7_order, if_neg q1, if_neg q4, if_pos q16, if_neg q22, if_pos q24]) dX7_order_92 (fun H h => by rw [sX7_order, if_neg q1, if_neg q4, if_pos q16, if_neg q22, if_pos q24]; exact h)
        ·
          refine j_iconst C0 (v := 1) dX7_order_39 (by decide) ?_
          refine j_goto C0 44 dX7_order_40 (by decide) ?_
          refine j_istore C0 (L' := [(0, .ref (ad 0)), (1, .int (a1)), (2, .int (a2)), (3, .int ((vX7_isShip F G (a1)))), (4, .int ((1 : Int32)))]) dX7_order_44 (by decide) rfl ?_
          refine j_aload_n C0 dX7_order_46 rfl ?_
          refine j_iload_n C0 dX7_order_47 rfl ?_
          refine j_if_ne C0 55 dX7_order_48 (by decide) (fun _ => ?_) (fun z => absurd z q1)
          refine j_iload_n C0 dX7_order_55 rfl ?_
          refine j_aload_n C0 dX7_order_56 rfl ?_
          refine r_gf_1 C0 (v := (F 1)) dX7_order_57 rfl ?_
          refine j_iconst C0 (v := 1) dX7_order_60 (by decide) ?_
          refine j_iadd C0 dX7_order_61 ?_
          refine j_sipush C0 (v := 3000) dX7_order_62 (by decide) ?_
          refine j_callSv C0 (k_X7_isIn hl (a2) (((F 1) + (1 : Int32))) ((3000 : Int32)) ) ms_X7_isIn wm_X7_78 rfl rfl ⟨Nat.le_of_ble_eq_true rfl, Nat.le_of_ble_eq_true rfl⟩ (Nat.le_of_ble_eq_true rfl) ⟨Nat.le_refl _, Nat.le_refl _⟩ dX7_order_65 ?_
          refine j_if_ne C0 75 dX7_order_68 (by decide) (fun (q29 : ¬ ((vX7_isIn (a2) (((F 1) + (1 : Int32))) ((3000 : Int32))) = 0)) => ?_) (fun (q29 : (vX7_isIn (a2) (((F 1) + (1 : Int32))) ((3000 : Int32))) = 0) => ?_)
          ·
            refine j_iload C0 dX7_order_75 rfl ?_
            refine j_if_eq C0 84 dX7_order_77 (by decide) (fun z => absurd z (by decide)) (fun _ => ?_)
            refine j_iconst C0 (v := 0) dX7_order_80 (by decide) ?_
            refine j_goto C0 85 dX7_order_81 (by decide) ?_
            refine j_callVv C0 (k_X7_holds hl ad F G ((0 : Int32)) ) mv_X7_holds wm_X7_85 (r_recv C0) rfl rfl ⟨Nat.le_of_ble_eq_true rfl, Nat.le_of_ble_eq_true rfl⟩ (Nat.le_of_ble_eq_true rfl) ⟨Nat.le_refl _, Nat.le_refl _⟩ dX7_order_85 ?_
            refine j_top (1 : Int32) (by unfold vX7_holds; decide +kernel) ?_
            show J p l e _ s m args below meth c A 5 _ (OV D Y A ad (0 : Int32) (F 1) (F 5) (F 18) (F 19) (F 20) (G 2) (G 3) (G 4) (G 6) (G 7) (G 8) (G 9) (G 10) (G 11) (G 12) (G 13) (G 14) (G 15) (G 16) (G 17) (G 21) (G 22) (G 23) (G 24) (G 25)) 0 0 88 [(0, .ref (ad 0)), (1, .int (a1)), (2, .int (a2)), (3, .int ((vX7_isShip F G (a1)))), (4, .int ((1 : Int32)))] [.int ((1 : Int32))]
            refine j_if_ne C0 93 dX7_order_88 (by decide) (fun _ => ?_) (fun z => absurd z (by decide))
            refine j_aload_n C0 dX7_order_93 rfl ?_
            refine r_gf_11 C0 dX7_order_94 ?_
            refine j_iload_n C0 dX7_order_97 rfl ?_
            refine j_iload_n C0 dX7_order_98 rfl ?_
            refine r_st_11 C0 (isShip_vp hs q1) dX7_order_99 ?_
            refine j_aload_n C0 dX7_order_100 rfl ?_
            refine j_callVv C0 (k_X7_ordered hl ad (hu F 0 (0 : Int32)) (hu G 11 (upd (G 11) (a1).toNatClampNeg (a2)))  hs) mv_X7_ordered wm_X7_102 (r_recv C0) rfl rfl ⟨Nat.le_of_ble_eq_true rfl, Nat.le_of_ble_eq_true rfl⟩ (Nat.le_of_ble_eq_true rfl) ⟨Nat.le_refl _, Nat.le_refl _⟩ dX7_order_101 ?_
            exact j_iretE C0 rfl (by rw [vX7_order, if_neg q1, if_neg q4, if_pos q16, if_pos q22, if_neg q29]) dX7_order_104 (fun H h => by rw [sX7_order, if_neg q1, if_neg q4, if_pos q16, if_pos q22, if_neg q29]; exact h)
          ·
            refine j_iconst C0 (v := 2) dX7_order_71 (by decide) ?_
            refine j_goto C0 85 dX7_order_72 (by decide) ?_
            refine j_callVv C0 (k_X7_holds hl ad F G ((2 : Int32)) ) mv_X7_holds wm_X7_85 (r_recv C0) rfl rfl ⟨Nat.le_of_ble_eq_true rfl, Nat.le_of_ble_eq_true rfl⟩ (Nat.le_of_ble_eq_true rfl) ⟨Nat.le_refl _, Nat.le_refl _⟩ dX7_order_85 ?_
            refine j_top (0 : Int32) (by unfold vX7_holds; decide +kernel) ?_
            show J p l e _ s m args below meth c A 5 _ (OV D Y A ad (2 : Int32) (F 1) (F 5) (F 18) (F 19) (F 20) (G 2) (G 3) (G 4) (G 6) (G 7) (G 8) (G 9) (G 10) (G 11) (G 12) (G 13) (G 14) (G 15) (G 16) (G 17) (G 21) (G 22) (G 23) (G 24) (G 25)) 0 0 88 [(0, .ref (ad 0)), (1, .int (a1)), (2, .int (a2)), (3, .int ((vX7_isShip F G (a1)))), (4, .int ((1 : Int32)))] [.int ((0 : Int32))]
            refine j_if_ne C0 93 dX7_order_88 (by decide) (fun z => absurd (by decide) z) (fun _ => ?_)
            refine j_iconst C0 (v := 0) dX7_order_91 (by decide) ?_
            exact j_iretE C0 rfl (by rw [vX7_order, if_neg q1, if_neg q4, if_pos q16, if_pos q22, if_pos q29]) dX7_order_92 (fun H h => by rw [sX7_order, if_neg q1, if_neg q4, if_pos q16, if_pos q22, if_pos q29]; exact h)
/-! ## cancel(I)I -/
def vX7_cancel (F : Nat → Int32) (G : Nat → Nat → Int32) (a1 : Int32) : Int32 := (if (vX7_isShip F G (a1)) = 0 then (0 : Int32) else (if ((G 11) (a1).toNatClampNeg) = (-1 : Int32) then (0 : Int32) else ((G 11) (a1).toNatClampNeg)))
def sX7_cancel (F : Nat → Int32) (G : Nat → Nat → Int32) (a1 : Int32) : (Nat → Int32) × (Nat → Nat → Int32) := (if (vX7_isShip F G (a1)) = 0 then ((hu F 0 (1 : Int32)), G) else (if ((G 11) (a1).toNatClampNeg) = (-1 : Int32) then ((hu F 0 (2 : Int32)), G) else ((hu F 0 (0 : Int32)), (hu G 11 (upd (G 11) (a1).toNatClampNeg ((-1 : Int32)))))))
set_option maxRecDepth 100000 in
set_option maxHeartbeats 4000000 in
theorem k_X7_cancel {l : Launch} (hl : l.stackTraces = false) {D : va_G} {Y : Nat → ClassId} {A : Nat → Prop} {E : State → Prop} (ad : Nat → Nat) (F : Nat → Int32) (G : Nat → Nat → Int32) (a1 : Int32) (hI : RI F G) : KM l yX7_cancel cX7_cancel 4 (some .int) D Y A E 2 43 0 0 [.ref (ad 0), .int (a1)] (OR D Y A ad F G) (some (.int (vX7_cancel F G a1))) (OR D Y A ad (sX7_cancel F G a1).1 (sX7_cancel F G a1).2) := by
  refine KM_of RX7 [(0, .ref (ad 0)), (1, .int (a1))] rfl (by decide) hl (Nat.le_of_ble_eq_true rfl) rfl (lok_of rfl rfl) ?_
  intro p e s m args below meth c C0
  obtain ⟨hn, hs, hm, hb, hw, hr⟩ := id hI
  refine j_aload_n C0 dX7_cancel_0 rfl ?_
  refine j_iload_n C0 dX7_cancel_1 rfl ?_
  refine j_callVv C0 (k_X7_isShip hl ad F G (a1) ) mv_X7_isShip wm_X7_99 (r_recv C0) rfl rfl ⟨Nat.le_of_ble_eq_true rfl, Nat.le_of_ble_eq_true rfl⟩ (Nat.le_of_ble_eq_true rfl) ⟨Nat.le_refl _, Nat.le_refl _⟩ dX7_cancel_2 ?_
  refine j_istore_n C0 (L' := [(0, .ref (ad 0)), (1, .int (a1)), (2, .int ((vX7_isShip F G (a1))))]) dX7_cancel_5 (by decide) rfl ?_
  refine j_aload_n C0 dX7_cancel_6 rfl ?_
  refine j_iload_n C0 dX7_cancel_7 rfl ?_
  refine j_if_ne C0 15 dX7_cancel_8 (by decide) (fun (q1 : ¬ ((vX7_isShip F G (a1)) = 0)) => ?_) (fun (q1 : (vX7_isShip F G (a1)) = 0) => ?_)
  ·
    refine j_aload_n C0 dX7_cancel_15 rfl ?_
    refine r_gf_11 C0 dX7_cancel_16 ?_
    refine j_iload_n C0 dX7_cancel_19 rfl ?_
    refine r_ld_11 C0 (v := ((G 11) (a1).toNatClampNeg)) (isShip_vp hs q1) dX7_cancel_20 rfl ?_
    refine j_iconst C0 (v := -1) dX7_cancel_21 (by decide) ?_
    refine j_icmp_ne C0 29 dX7_cancel_22 (by decide) (fun (q2 : ¬ (((G 11) (a1).toNatClampNeg) = (-1 : Int32))) => ?_) (fun (q2 : ((G 11) (a1).toNatClampNeg) = (-1 : Int32)) => ?_)
    ·
      refine j_iconst C0 (v := 0) dX7_cancel_29 (by decide) ?_
      refine j_callVv C0 (k_X7_holds hl ad F G ((0 : Int32)) ) mv_X7_holds wm_X7_85 (r_recv C0) rfl rfl ⟨Nat.le_of_ble_eq_true rfl, Nat.le_of_ble_eq_true rfl⟩ (Nat.le_of_ble_eq_true rfl) ⟨Nat.le_refl _, Nat.le_refl _⟩ dX7_cancel_30 ?_
      refine j_top (1 : Int32) (by unfold vX7_holds; decide +kernel) ?_
      show J p l e _ s m args below meth c A 4 _ (OV D Y A ad (0 : Int32) (F 1) (F 5) (F 18) (F 19) (F 20) (G 2) (G 3) (G 4) (G 6) (G 7) (G 8) (G 9) (G 10) (G 11) (G 12) (G 13) (G 14) (G 15) (G 16) (G 17) (G 21) (G 22) (G 23) (G 24) (G 25)) 0 0 33 [(0, .ref (ad 0)), (1, .int (a1)), (2, .int ((vX7_isShip F G (a1))))] [.int ((1 : Int32))]
      refine j_if_ne C0 38 dX7_cancel_33 (by decide) (fun _ => ?_) (fun z => absurd z (by decide))
      refine j_aload_n C0 dX7_cancel_38 rfl ?_
      refine r_gf_11 C0 dX7_cancel_39 ?_
      refine j_iload_n C0 dX7_cancel_42 rfl ?_
      refine r_ld_11 C0 (v := ((G 11) (a1).toNatClampNeg)) (isShip_vp hs q1) dX7_cancel_43 rfl ?_
      refine j_istore_n C0 (L' := [(0, .ref (ad 0)), (1, .int (a1)), (2, .int ((vX7_isShip F G (a1)))), (3, .int (((G 11) (a1).toNatClampNeg)))]) dX7_cancel_44 (by decide) rfl ?_
      refine j_aload_n C0 dX7_cancel_45 rfl ?_
      refine r_gf_11 C0 dX7_cancel_46 ?_
      refine j_iload_n C0 dX7_cancel_49 rfl ?_
      refine j_iconst C0 (v := -1) dX7_cancel_50 (by decide) ?_
      refine r_st_11 C0 (isShip_vp hs q1) dX7_cancel_51 ?_
      refine j_iload_n C0 dX7_cancel_52 rfl ?_
      exact j_iretE C0 rfl (by rw [vX7_cancel, if_neg q1, if_neg q2]) dX7_cancel_53 (fun H h => by rw [sX7_cancel, if_neg q1, if_neg q2]; exact h)
    ·
      refine j_iconst C0 (v := 2) dX7_cancel_25 (by decide) ?_
      refine j_goto C0 30 dX7_cancel_26 (by decide) ?_
      refine j_callVv C0 (k_X7_holds hl ad F G ((2 : Int32)) ) mv_X7_holds wm_X7_85 (r_recv C0) rfl rfl ⟨Nat.le_of_ble_eq_true rfl, Nat.le_of_ble_eq_true rfl⟩ (Nat.le_of_ble_eq_true rfl) ⟨Nat.le_refl _, Nat.le_refl _⟩ dX7_cancel_30 ?_
      refine j_top (0 : Int32) (by unfold vX7_holds; decide +kernel) ?_
      show J p l e _ s m args below meth c A 4 _ (OV D Y A ad (2 : Int32) (F 1) (F 5) (F 18) (F 19) (F 20) (G 2) (G 3) (G 4) (G 6) (G 7) (G 8) (G 9) (G 10) (G 11) (G 12) (G 13) (G 14) (G 15) (G 16) (G 17) (G 21) (G 22) (G 23) (G 24) (G 25)) 0 0 33 [(0, .ref (ad 0)), (1, .int (a1)), (2, .int ((vX7_isShip F G (a1))))] [.int ((0 : Int32))]
      refine j_if_ne C0 38 dX7_cancel_33 (by decide) (fun z => absurd (by decide) z) (fun _ => ?_)
      refine j_iconst C0 (v := 0) dX7_cancel_36 (by decide) ?_
      exact j_iretE C0 rfl (by rw [vX7_cancel, if_neg q1, if_pos q2]) dX7_cancel_37 (fun H h => by rw [sX7_cancel, if_neg q1, if_pos q2]; exact h)
  ·
    refine j_iconst C0 (v := 1) dX7_cancel_11 (by decide) ?_
    refine j_goto C0 30 dX7_cancel_12 (by decide) ?_
    refine j_callVv C0 (k_X7_holds hl ad F G ((1 : Int32)) ) mv_X7_holds wm_X7_85 (r_recv C0) rfl rfl ⟨Nat.le_of_ble_eq_true rfl, Nat.le_of_ble_eq_true rfl⟩ (Nat.le_of_ble_eq_true rfl) ⟨Nat.le_refl _, Nat.le_refl _⟩ dX7_cancel_30 ?_
    refine j_top (0 : Int32) (by unfold vX7_holds; decide +kernel) ?_
    show J p l e _ s m args below meth c A 4 _ (OV D Y A ad (1 : Int32) (F 1) (F 5) (F 18) (F 19) (F 20) (G 2) (G 3) (G 4) (G 6) (G 7) (G 8) (G 9) (G 10) (G 11) (G 12) (G 13) (G 14) (G 15) (G 16) (G 17) (G 21) (G 22) (G 23) (G 24) (G 25)) 0 0 33 [(0, .ref (ad 0)), (1, .int (a1)), (2, .int ((vX7_isShip F G (a1))))] [.int ((0 : Int32))]
    refine j_if_ne C0 38 dX7_cancel_33 (by decide) (fun z => absurd (by decide) z) (fun _ => ?_)
    refine j_iconst C0 (v := 0) dX7_cancel_36 (by decide) ?_
    exact j_iretE C0 rfl (by rw [vX7_cancel, if_pos q1]) dX7_cancel_37 (fun H h => by rw [sX7_cancel, if_pos q1]; exact h)
/-! ## hasWater(II)Z -/
def vX7_hasWater (F : Nat → Int32) (G : Nat → Nat → Int32) (a1 : Int32) (a2 : Int32) : Int32 := (if (vX7_isShip F G (a1)) = 0 then (0 : Int32) else (if (vX7_isIn (a2) ((0 : Int32)) ((3000 : Int32))) = 0 then (0 : Int32) else (if (vX7_floats (hu F 0 (0 : Int32)) G (a1) (a2)) = 0 then (0 : Int32) else (1 : Int32))))
def sX7_hasWater (F : Nat → Int32) (G : Nat → Nat → Int32) (a1 : Int32) (a2 : Int32) : (Nat → Int32) × (Nat → Nat → Int32) := (if (vX7_isShip F G (a1)) = 0 then ((hu F 0 (1 : Int32)), G) else (if (vX7_isIn (a2) ((0 : Int32)) ((3000 : Int32))) = 0 then ((hu F 0 (2 : Int32)), G) else (if (vX7_floats (hu F 0 (0 : Int32)) G (a1) (a2)) = 0 then ((hu F 0 (0 : Int32)), G) else ((hu F 0 (0 : Int32)), G))))
set_option maxRecDepth 100000 in
set_option maxHeartbeats 4000000 in
theorem k_X7_hasWater {l : Launch} (hl : l.stackTraces = false) {D : va_G} {Y : Nat → ClassId} {A : Nat → Prop} {E : State → Prop} (ad : Nat → Nat) (F : Nat → Int32) (G : Nat → Nat → Int32) (a1 : Int32) (a2 : Int32) (hI : RI F G) : KM l yX7_hasWater cX7_hasWater 3 (some .boolean) D Y A E 2 47 0 0 [.ref (ad 0), .int (a1), .int (a2)] (OR D Y A ad F G) (some (.int (vX7_hasWater F G a1 a2))) (OR D Y A ad (sX7_hasWater F G a1 a2).1 (sX7_hasWater F G a1 a2).2) := by
  refine KM_of RX7 [(0, .ref (ad 0)), (1, .int (a1)), (2, .int (a2))] rfl (by decide) hl (Nat.le_of_ble_eq_true rfl) rfl (lok_of rfl rfl) ?_
  intro p e s m args below meth c C0
  obtain ⟨hn, hs, hm, hb, hw, hr⟩ := id hI
  refine j_aload_n C0 dX7_hasWater_0 rfl ?_
  refine j_aload_n C0 dX7_hasWater_1 rfl ?_
  refine j_iload_n C0 dX7_hasWater_2 rfl ?_
  refine j_callVv C0 (k_X7_isShip hl ad F G (a1) ) mv_X7_isShip wm_X7_99 (r_recv C0) rfl rfl ⟨Nat.le_of_ble_eq_true rfl, Nat.le_of_ble_eq_true rfl⟩ (Nat.le_of_ble_eq_true rfl) ⟨Nat.le_refl _, Nat.le_refl _⟩ dX7_hasWater_3 ?_
  refine j_if_ne C0 13 dX7_hasWater_6 (by decide) (fun (q1 : ¬ ((vX7_isShip F G (a1)) = 0)) => ?_) (fun (q1 : (vX7_isShip F G (a1)) = 0) => ?_)
  ·
    refine j_iload_n C0 dX7_hasWater_13 rfl ?_
    refine j_iconst C0 (v := 0) dX7_hasWater_14 (by decide) ?_
    refine j_sipush C0 (v := 3000) dX7_hasWater_15 (by decide) ?_
    refine j_callSv C0 (k_X7_isIn hl (a2) ((0 : Int32)) ((3000 : Int32)) ) ms_X7_isIn wm_X7_78 rfl rfl ⟨Nat.le_of_ble_eq_true rfl, Nat.le_of_ble_eq_true rfl⟩ (Nat.le_of_ble_eq_true rfl) ⟨Nat.le_refl _, Nat.le_refl _⟩ dX7_hasWater_18 ?_
    refine j_if_eq C0 28 dX7_hasWater_21 (by decide) (fun (q2 : (vX7_isIn (a2) ((0 : Int32)) ((3000 : Int32))) = 0) => ?_) (fun (q2 : ¬ ((vX7_isIn (a2) ((0 : Int32)) ((3000 : Int32))) = 0)) => ?_)
    ·
      refine j_iconst C0 (v := 2) dX7_hasWater_28 (by decide) ?_
      refine j_callVv C0 (k_X7_holds hl ad F G ((2 : Int32)) ) mv_X7_holds wm_X7_85 (r_recv C0) rfl rfl ⟨Nat.le_of_ble_eq_true rfl, Nat.le_of_ble_eq_true rfl⟩ (Nat.le_of_ble_eq_true rfl) ⟨Nat.le_refl _, Nat.le_refl _⟩ dX7_hasWater_29 ?_
      refine j_top (0 : Int32) (by unfold vX7_holds; decide +kernel) ?_
      show J p l e _ s m args below meth c A 3 _ (OV D Y A ad (2 : Int32) (F 1) (F 5) (F 18) (F 19) (F 20) (G 2) (G 3) (G 4) (G 6) (G 7) (G 8) (G 9) (G 10) (G 11) (G 12) (G 13) (G 14) (G 15) (G 16) (G 17) (G 21) (G 22) (G 23) (G 24) (G 25)) 0 0 32 [(0, .ref (ad 0)), (1, .int (a1)), (2, .int (a2))] [.int ((0 : Int32))]
      refine j_if_eq C0 48 dX7_hasWater_32 (by decide) (fun _ => ?_) (fun z => absurd (by decide) z)
      refine j_iconst C0 (v := 0) dX7_hasWater_48 (by decide) ?_
      exact j_zretE C0 rfl (by rw [vX7_hasWater, if_neg q1, if_pos q2]) (by decide) dX7_hasWater_49 (fun H h => by rw [sX7_hasWater, if_neg q1, if_pos q2]; exact h)
    ·
      refine j_iconst C0 (v := 0) dX7_hasWater_24 (by decide) ?_
      refine j_goto C0 29 dX7_hasWater_25 (by decide) ?_
      refine j_callVv C0 (k_X7_holds hl ad F G ((0 : Int32)) ) mv_X7_holds wm_X7_85 (r_recv C0) rfl rfl ⟨Nat.le_of_ble_eq_true rfl, Nat.le_of_ble_eq_true rfl⟩ (Nat.le_of_ble_eq_true rfl) ⟨Nat.le_refl _, Nat.le_refl _⟩ dX7_hasWater_29 ?_
      refine j_top (1 : Int32) (by unfold vX7_holds; decide +kernel) ?_
      show J p l e _ s m args below meth c A 3 _ (OV D Y A ad (0 : Int32) (F 1) (F 5) (F 18) (F 19) (F 20) (G 2) (G 3) (G 4) (G 6) (G 7) (G 8) (G 9) (G 10) (G 11) (G 12) (G 13) (G 14) (G 15) (G 16) (G 17) (G 21) (G 22) (G 23) (G 24) (G 25)) 0 0 32 [(0, .ref (ad 0)), (1, .int (a1)), (2, .int (a2))] [.int ((1 : Int32))]
      refine j_if_eq C0 48 dX7_hasWater_32 (by decide) (fun z => absurd z (by decide)) (fun _ => ?_)
      refine j_aload_n C0 dX7_hasWater_35 rfl ?_
      refine j_iload_n C0 dX7_hasWater_36 rfl ?_
      refine j_iload_n C0 dX7_hasWater_37 rfl ?_
      refine j_callVv C0 (k_X7_floats hl ad (hu F 0 (0 : Int32)) G (a1) (a2) (isShip_vp hs q1) (hb _ (vp_cl (isShip_vp hs q1))) (isIn_vp q2 (by decide)) (isIn_next q2)) mv_X7_floats wm_X7_106 (r_recv C0) rfl rfl ⟨Nat.le_of_ble_eq_true rfl, Nat.le_of_ble_eq_true rfl⟩ (Nat.le_of_ble_eq_true rfl) ⟨Nat.le_refl _, Nat.le_refl _⟩ dX7_hasWater_38 ?_
      refine j_if_eq C0 48 dX7_hasWater_41 (by decide) (fun (q5 : (vX7_floats (hu F 0 (0 : Int32)) G (a1) (a2)) = 0) => ?_) (fun (q5 : ¬ ((vX7_floats (hu F 0 (0 : Int32)) G (a1) (a2)) = 0)) => ?_)
      ·
        refine j_iconst C0 (v := 0) dX7_hasWater_48 (by decide) ?_
        exact j_zretE C0 rfl (by rw [vX7_hasWater, if_neg q1, if_neg q2, if_pos q5]) (by decide) dX7_hasWater_49 (fun H h => by rw [sX7_hasWater, if_neg q1, if_neg q2, if_pos q5]; exact h)
      ·
        refine j_iconst C0 (v := 1) dX7_hasWater_44 (by decide) ?_
        refine j_goto C0 49 dX7_hasWater_45 (by decide) ?_
        exact j_zretE C0 rfl (by rw [vX7_hasWater, if_neg q1, if_neg q2, if_neg q5]) (by decide) dX7_hasWater_49 (fun H h => by rw [sX7_hasWater, if_neg q1, if_neg q2, if_neg q5]; exact h)
  ·
    refine j_iconst C0 (v := 1) dX7_hasWater_9 (by decide) ?_
    refine j_goto C0 29 dX7_hasWater_10 (by decide) ?_
    refine j_callVv C0 (k_X7_holds hl ad F G ((1 : Int32)) ) mv_X7_holds wm_X7_85 (r_recv C0) rfl rfl ⟨Nat.le_of_ble_eq_true rfl, Nat.le_of_ble_eq_true rfl⟩ (Nat.le_of_ble_eq_true rfl) ⟨Nat.le_refl _, Nat.le_refl _⟩ dX7_hasWater_29 ?_
    refine j_top (0 : Int32) (by unfold vX7_holds; decide +kernel) ?_
    show J p l e _ s m args below meth c A 3 _ (OV D Y A ad (1 : Int32) (F 1) (F 5) (F 18) (F 19) (F 20) (G 2) (G 3) (G 4) (G 6) (G 7) (G 8) (G 9) (G 10) (G 11) (G 12) (G 13) (G 14) (G 15) (G 16) (G 17) (G 21) (G 22) (G 23) (G 24) (G 25)) 0 0 32 [(0, .ref (ad 0)), (1, .int (a1)), (2, .int (a2))] [.int ((0 : Int32))]
    refine j_if_eq C0 48 dX7_hasWater_32 (by decide) (fun _ => ?_) (fun z => absurd (by decide) z)
    refine j_iconst C0 (v := 0) dX7_hasWater_48 (by decide) ?_
    exact j_zretE C0 rfl (by rw [vX7_hasWater, if_pos q1]) (by decide) dX7_hasWater_49 (fun H h => by rw [sX7_hasWater, if_pos q1]; exact h)
/-! ## state(I)I -/
def vX7_state (F : Nat → Int32) (G : Nat → Nat → Int32) (a1 : Int32) : Int32 := (if (vX7_isShip F G (a1)) = 0 then (0 : Int32) else ((G 10) (a1).toNatClampNeg))
def sX7_state (F : Nat → Int32) (G : Nat → Nat → Int32) (a1 : Int32) : (Nat → Int32) × (Nat → Nat → Int32) := (if (vX7_isShip F G (a1)) = 0 then ((hu F 0 (1 : Int32)), G) else ((hu F 0 (0 : Int32)), G))
set_option maxRecDepth 100000 in
set_option maxHeartbeats 4000000 in
theorem k_X7_state {l : Launch} (hl : l.stackTraces = false) {D : va_G} {Y : Nat → ClassId} {A : Nat → Prop} {E : State → Prop} (ad : Nat → Nat) (F : Nat → Int32) (G : Nat → Nat → Int32) (a1 : Int32) (hI : RI F G) : KM l yX7_state cX7_state 2 (some .int) D Y A E 2 43 0 0 [.ref (ad 0), .int (a1)] (OR D Y A ad F G) (some (.int (vX7_state F G a1))) (OR D Y A ad (sX7_state F G a1).1 (sX7_state F G a1).2) := by
  refine KM_of RX7 [(0, .ref (ad 0)), (1, .int (a1))] rfl (by decide) hl (Nat.le_of_ble_eq_true rfl) rfl (lok_of rfl rfl) ?_
  intro p e s m args below meth c C0
  obtain ⟨hn, hs, hm, hb, hw, hr⟩ := id hI
  refine j_aload_n C0 dX7_state_0 rfl ?_
  refine j_aload_n C0 dX7_state_1 rfl ?_
  refine j_iload_n C0 dX7_state_2 rfl ?_
  refine j_callVv C0 (k_X7_isShip hl ad F G (a1) ) mv_X7_isShip wm_X7_99 (r_recv C0) rfl rfl ⟨Nat.le_of_ble_eq_true rfl, Nat.le_of_ble_eq_true rfl⟩ (Nat.le_of_ble_eq_true rfl) ⟨Nat.le_refl _, Nat.le_refl _⟩ dX7_state_3 ?_
  refine j_if_eq C0 13 dX7_state_6 (by decide) (fun (q1 : (vX7_isShip F G (a1)) = 0) => ?_) (fun (q1 : ¬ ((vX7_isShip F G (a1)) = 0)) => ?_)
  ·
    refine j_iconst C0 (v := 1) dX7_state_13 (by decide) ?_
    refine j_callVv C0 (k_X7_holds hl ad F G ((1 : Int32)) ) mv_X7_holds wm_X7_85 (r_recv C0) rfl rfl ⟨Nat.le_of_ble_eq_true rfl, Nat.le_of_ble_eq_true rfl⟩ (Nat.le_of_ble_eq_true rfl) ⟨Nat.le_refl _, Nat.le_refl _⟩ dX7_state_14 ?_
    refine j_top (0 : Int32) (by unfold vX7_holds; decide +kernel) ?_
    show J p l e _ s m args below meth c A 2 _ (OV D Y A ad (1 : Int32) (F 1) (F 5) (F 18) (F 19) (F 20) (G 2) (G 3) (G 4) (G 6) (G 7) (G 8) (G 9) (G 10) (G 11) (G 12) (G 13) (G 14) (G 15) (G 16) (G 17) (G 21) (G 22) (G 23) (G 24) (G 25)) 0 0 17 [(0, .ref (ad 0)), (1, .int (a1))] [.int ((0 : Int32))]
    refine j_if_eq C0 29 dX7_state_17 (by decide) (fun _ => ?_) (fun z => absurd (by decide) z)
    refine j_iconst C0 (v := 0) dX7_state_29 (by decide) ?_
    exact j_iretE C0 rfl (by rw [vX7_state, if_pos q1]) dX7_state_30 (fun H h => by rw [sX7_state, if_pos q1]; exact h)
  ·
    refine j_iconst C0 (v := 0) dX7_state_9 (by decide) ?_
    refine j_goto C0 14 dX7_state_10 (by decide) ?_
    refine j_callVv C0 (k_X7_holds hl ad F G ((0 : Int32)) ) mv_X7_holds wm_X7_85 (r_recv C0) rfl rfl ⟨Nat.le_of_ble_eq_true rfl, Nat.le_of_ble_eq_true rfl⟩ (Nat.le_of_ble_eq_true rfl) ⟨Nat.le_refl _, Nat.le_refl _⟩ dX7_state_14 ?_
    refine j_top (1 : Int32) (by unfold vX7_holds; decide +kernel) ?_
    show J p l e _ s m args below meth c A 2 _ (OV D Y A ad (0 : Int32) (F 1) (F 5) (F 18) (F 19) (F 20) (G 2) (G 3) (G 4) (G 6) (G 7) (G 8) (G 9) (G 10) (G 11) (G 12) (G 13) (G 14) (G 15) (G 16) (G 17) (G 21) (G 22) (G 23) (G 24) (G 25)) 0 0 17 [(0, .ref (ad 0)), (1, .int (a1))] [.int ((1 : Int32))]
    refine j_if_eq C0 29 dX7_state_17 (by decide) (fun z => absurd z (by decide)) (fun _ => ?_)
    refine j_aload_n C0 dX7_state_20 rfl ?_
    refine r_gf_10 C0 dX7_state_21 ?_
    refine j_iload_n C0 dX7_state_24 rfl ?_
    refine r_ld_10 C0 (v := ((G 10) (a1).toNatClampNeg)) (isShip_vp hs q1) dX7_state_25 rfl ?_
    refine j_goto C0 30 dX7_state_26 (by decide) ?_
    exact j_iretE C0 rfl (by rw [vX7_state, if_neg q1]) dX7_state_30 (fun H h => by rw [sX7_state, if_neg q1]; exact h)
/-! ## paid(I)I -/
def vX7_paid (F : Nat → Int32) (G : Nat → Nat → Int32) (a1 : Int32) : Int32 := (if (vX7_isShip F G (a1)) = 0 then (0 : Int32) else ((G 13) (a1).toNatClampNeg))
def sX7_paid (F : Nat → Int32) (G : Nat → Nat → Int32) (a1 : Int32) : (Nat → Int32) × (Nat → Nat → Int32) := (if (vX7_isShip F G (a1)) = 0 then ((hu F 0 (1 : Int32)), G) else ((hu F 0 (0 : Int32)), G))
set_option maxRecDepth 100000 in
set_option maxHeartbeats 4000000 in
theorem k_X7_paid {l : Launch} (hl : l.stackTraces = false) {D : va_G} {Y : Nat → ClassId} {A : Nat → Prop} {E : State → Prop} (ad : Nat → Nat) (F : Nat → Int32) (G : Nat → Nat → Int32) (a1 : Int32) (hI : RI F G) : KM l yX7_paid cX7_paid 2 (some .int) D Y A E 2 43 0 0 [.ref (ad 0), .int (a1)] (OR D Y A ad F G) (some (.int (vX7_paid F G a1))) (OR D Y A ad (sX7_paid F G a1).1 (sX7_paid F G a1).2) := by
  refine KM_of RX7 [(0, .ref (ad 0)), (1, .int (a1))] rfl (by decide) hl (Nat.le_of_ble_eq_true rfl) rfl (lok_of rfl rfl) ?_
  intro p e s m args below meth c C0
  obtain ⟨hn, hs, hm, hb, hw, hr⟩ := id hI
  refine j_aload_n C0 dX7_paid_0 rfl ?_
  refine j_aload_n C0 dX7_paid_1 rfl ?_
  refine j_iload_n C0 dX7_paid_2 rfl ?_
  refine j_callVv C0 (k_X7_isShip hl ad F G (a1) ) mv_X7_isShip wm_X7_99 (r_recv C0) rfl rfl ⟨Nat.le_of_ble_eq_true rfl, Nat.le_of_ble_eq_true rfl⟩ (Nat.le_of_ble_eq_true rfl) ⟨Nat.le_refl _, Nat.le_refl _⟩ dX7_paid_3 ?_
  refine j_if_eq C0 13 dX7_paid_6 (by decide) (fun (q1 : (vX7_isShip F G (a1)) = 0) => ?_) (fun (q1 : ¬ ((vX7_isShip F G (a1)) = 0)) => ?_)
  ·
    refine j_iconst C0 (v := 1) dX7_paid_13 (by decide) ?_
    refine j_callVv C0 (k_X7_holds hl ad F G ((1 : Int32)) ) mv_X7_holds wm_X7_85 (r_recv C0) rfl rfl ⟨Nat.le_of_ble_eq_true rfl, Nat.le_of_ble_eq_true rfl⟩ (Nat.le_of_ble_eq_true rfl) ⟨Nat.le_refl _, Nat.le_refl _⟩ dX7_paid_14 ?_
    refine j_top (0 : Int32) (by unfold vX7_holds; decide +kernel) ?_
    show J p l e _ s m args below meth c A 2 _ (OV D Y A ad (1 : Int32) (F 1) (F 5) (F 18) (F 19) (F 20) (G 2) (G 3) (G 4) (G 6) (G 7) (G 8) (G 9) (G 10) (G 11) (G 12) (G 13) (G 14) (G 15) (G 16) (G 17) (G 21) (G 22) (G 23) (G 24) (G 25)) 0 0 17 [(0, .ref (ad 0)), (1, .int (a1))] [.int ((0 : Int32))]
    refine j_if_eq C0 29 dX7_paid_17 (by decide) (fun _ => ?_) (fun z => absurd (by decide) z)
    refine j_iconst C0 (v := 0) dX7_paid_29 (by decide) ?_
    exact j_iretE C0 rfl (by rw [vX7_paid, if_pos q1]) dX7_paid_30 (fun H h => by rw [sX7_paid, if_pos q1]; exact h)
  ·
    refine j_iconst C0 (v := 0) dX7_paid_9 (by decide) ?_
    refine j_goto C0 14 dX7_paid_10 (by decide) ?_
    refine j_callVv C0 (k_X7_holds hl ad F G ((0 : Int32)) ) mv_X7_holds wm_X7_85 (r_recv C0) rfl rfl ⟨Nat.le_of_ble_eq_true rfl, Nat.le_of_ble_eq_true rfl⟩ (Nat.le_of_ble_eq_true rfl) ⟨Nat.le_refl _, Nat.le_refl _⟩ dX7_paid_14 ?_
    refine j_top (1 : Int32) (by unfold vX7_holds; decide +kernel) ?_
    show J p l e _ s m args below meth c A 2 _ (OV D Y A ad (0 : Int32) (F 1) (F 5) (F 18) (F 19) (F 20) (G 2) (G 3) (G 4) (G 6) (G 7) (G 8) (G 9) (G 10) (G 11) (G 12) (G 13) (G 14) (G 15) (G 16) (G 17) (G 21) (G 22) (G 23) (G 24) (G 25)) 0 0 17 [(0, .ref (ad 0)), (1, .int (a1))] [.int ((1 : Int32))]
    refine j_if_eq C0 29 dX7_paid_17 (by decide) (fun z => absurd z (by decide)) (fun _ => ?_)
    refine j_aload_n C0 dX7_paid_20 rfl ?_
    refine r_gf_13 C0 dX7_paid_21 ?_
    refine j_iload_n C0 dX7_paid_24 rfl ?_
    refine r_ld_13 C0 (v := ((G 13) (a1).toNatClampNeg)) (isShip_vp hs q1) dX7_paid_25 rfl ?_
    refine j_goto C0 30 dX7_paid_26 (by decide) ?_
    exact j_iretE C0 rfl (by rw [vX7_paid, if_neg q1]) dX7_paid_30 (fun H h => by rw [sX7_paid, if_neg q1]; exact h)
/-! ## lost(I)I -/
def vX7_lost (F : Nat → Int32) (G : Nat → Nat → Int32) (a1 : Int32) : Int32 := (if (vX7_isShip F G (a1)) = 0 then (0 : Int32) else ((G 14) (a1).toNatClampNeg))
def sX7_lost (F : Nat → Int32) (G : Nat → Nat → Int32) (a1 : Int32) : (Nat → Int32) × (Nat → Nat → Int32) := (if (vX7_isShip F G (a1)) = 0 then ((hu F 0 (1 : Int32)), G) else ((hu F 0 (0 : Int32)), G))
set_option maxRecDepth 100000 in
set_option maxHeartbeats 4000000 in
theorem k_X7_lost {l : Launch} (hl : l.stackTraces = false) {D : va_G} {Y : Nat → ClassId} {A : Nat → Prop} {E : State → Prop} (ad : Nat → Nat) (F : Nat → Int32) (G : Nat → Nat → Int32) (a1 : Int32) (hI : RI F G) : KM l yX7_lost cX7_lost 2 (some .int) D Y A E 2 43 0 0 [.ref (ad 0), .int (a1)] (OR D Y A ad F G) (some (.int (vX7_lost F G a1))) (OR D Y A ad (sX7_lost F G a1).1 (sX7_lost F G a1).2) := by
  refine KM_of RX7 [(0, .ref (ad 0)), (1, .int (a1))] rfl (by decide) hl (Nat.le_of_ble_eq_true rfl) rfl (lok_of rfl rfl) ?_
  intro p e s m args below meth c C0
  obtain ⟨hn, hs, hm, hb, hw, hr⟩ := id hI
  refine j_aload_n C0 dX7_lost_0 rfl ?_
  refine j_aload_n C0 dX7_lost_1 rfl ?_
  refine j_iload_n C0 dX7_lost_2 rfl ?_
  refine j_callVv C0 (k_X7_isShip hl ad F G (a1) ) mv_X7_isShip wm_X7_99 (r_recv C0) rfl rfl ⟨Nat.le_of_ble_eq_true rfl, Nat.le_of_ble_eq_true rfl⟩ (Nat.le_of_ble_eq_true rfl) ⟨Nat.le_refl _, Nat.le_refl _⟩ dX7_lost_3 ?_
  refine j_if_eq C0 13 dX7_lost_6 (by decide) (fun (q1 : (vX7_isShip F G (a1)) = 0) => ?_) (fun (q1 : ¬ ((vX7_isShip F G (a1)) = 0)) => ?_)
  ·
    refine j_iconst C0 (v := 1) dX7_lost_13 (by decide) ?_
    refine j_callVv C0 (k_X7_holds hl ad F G ((1 : Int32)) ) mv_X7_holds wm_X7_85 (r_recv C0) rfl rfl ⟨Nat.le_of_ble_eq_true rfl, Nat.le_of_ble_eq_true rfl⟩ (Nat.le_of_ble_eq_true rfl) ⟨Nat.le_refl _, Nat.le_refl _⟩ dX7_lost_14 ?_
    refine j_top (0 : Int32) (by unfold vX7_holds; decide +kernel) ?_
    show J p l e _ s m args below meth c A 2 _ (OV D Y A ad (1 : Int32) (F 1) (F 5) (F 18) (F 19) (F 20) (G 2) (G 3) (G 4) (G 6) (G 7) (G 8) (G 9) (G 10) (G 11) (G 12) (G 13) (G 14) (G 15) (G 16) (G 17) (G 21) (G 22) (G 23) (G 24) (G 25)) 0 0 17 [(0, .ref (ad 0)), (1, .int (a1))] [.int ((0 : Int32))]
    refine j_if_eq C0 29 dX7_lost_17 (by decide) (fun _ => ?_) (fun z => absurd (by decide) z)
    refine j_iconst C0 (v := 0) dX7_lost_29 (by decide) ?_
    exact j_iretE C0 rfl (by rw [vX7_lost, if_pos q1]) dX7_lost_30 (fun H h => by rw [sX7_lost, if_pos q1]; exact h)
  ·
    refine j_iconst C0 (v := 0) dX7_lost_9 (by decide) ?_
    refine j_goto C0 14 dX7_lost_10 (by decide) ?_
    refine j_callVv C0 (k_X7_holds hl ad F G ((0 : Int32)) ) mv_X7_holds wm_X7_85 (r_recv C0) rfl rfl ⟨Nat.le_of_ble_eq_true rfl, Nat.le_of_ble_eq_true rfl⟩ (Nat.le_of_ble_eq_true rfl) ⟨Nat.le_refl _, Nat.le_refl _⟩ dX7_lost_14 ?_
    refine j_top (1 : Int32) (by unfold vX7_holds; decide +kernel) ?_
    show J p l e _ s m args below meth c A 2 _ (OV D Y A ad (0 : Int32) (F 1) (F 5) (F 18) (F 19) (F 20) (G 2) (G 3) (G 4) (G 6) (G 7) (G 8) (G 9) (G 10) (G 11) (G 12) (G 13) (G 14) (G 15) (G 16) (G 17) (G 21) (G 22) (G 23) (G 24) (G 25)) 0 0 17 [(0, .ref (ad 0)), (1, .int (a1))] [.int ((1 : Int32))]
    refine j_if_eq C0 29 dX7_lost_17 (by decide) (fun z => absurd z (by decide)) (fun _ => ?_)
    refine j_aload_n C0 dX7_lost_20 rfl ?_
    refine r_gf_14 C0 dX7_lost_21 ?_
    refine j_iload_n C0 dX7_lost_24 rfl ?_
    refine r_ld_14 C0 (v := ((G 14) (a1).toNatClampNeg)) (isShip_vp hs q1) dX7_lost_25 rfl ?_
    refine j_goto C0 30 dX7_lost_26 (by decide) ?_
    exact j_iretE C0 rfl (by rw [vX7_lost, if_neg q1]) dX7_lost_30 (fun H h => by rw [sX7_lost, if_neg q1]; exact h)
/-! ## claims(I)I -/
def vX7_claims (F : Nat → Int32) (G : Nat → Nat → Int32) (a1 : Int32) : Int32 := (if (vX7_isShip F G (a1)) = 0 then (0 : Int32) else ((G 15) (a1).toNatClampNeg))
def sX7_claims (F : Nat → Int32) (G : Nat → Nat → Int32) (a1 : Int32) : (Nat → Int32) × (Nat → Nat → Int32) := (if (vX7_isShip F G (a1)) = 0 then ((hu F 0 (1 : Int32)), G) else ((hu F 0 (0 : Int32)), G))
set_option maxRecDepth 100000 in
set_option maxHeartbeats 4000000 in
theorem k_X7_claims {l : Launch} (hl : l.stackTraces = false) {D : va_G} {Y : Nat → ClassId} {A : Nat → Prop} {E : State → Prop} (ad : Nat → Nat) (F : Nat → Int32) (G : Nat → Nat → Int32) (a1 : Int32) (hI : RI F G) : KM l yX7_claims cX7_claims 2 (some .int) D Y A E 2 43 0 0 [.ref (ad 0), .int (a1)] (OR D Y A ad F G) (some (.int (vX7_claims F G a1))) (OR D Y A ad (sX7_claims F G a1).1 (sX7_claims F G a1).2) := by
  refine KM_of RX7 [(0, .ref (ad 0)), (1, .int (a1))] rfl (by decide) hl (Nat.le_of_ble_eq_true rfl) rfl (lok_of rfl rfl) ?_
  intro p e s m args below meth c C0
  obtain ⟨hn, hs, hm, hb, hw, hr⟩ := id hI
  refine j_aload_n C0 dX7_claims_0 rfl ?_
  refine j_aload_n C0 dX7_claims_1 rfl ?_
  refine j_iload_n C0 dX7_claims_2 rfl ?_
  refine j_callVv C0 (k_X7_isShip hl ad F G (a1) ) mv_X7_isShip wm_X7_99 (r_recv C0) rfl rfl ⟨Nat.le_of_ble_eq_true rfl, Nat.le_of_ble_eq_true rfl⟩ (Nat.le_of_ble_eq_true rfl) ⟨Nat.le_refl _, Nat.le_refl _⟩ dX7_claims_3 ?_
  refine j_if_eq C0 13 dX7_claims_6 (by decide) (fun (q1 : (vX7_isShip F G (a1)) = 0) => ?_) (fun (q1 : ¬ ((vX7_isShip F G (a1)) = 0)) => ?_)
  ·
    refine j_iconst C0 (v := 1) dX7_claims_13 (by decide) ?_
    refine j_callVv C0 (k_X7_holds hl ad F G ((1 : Int32)) ) mv_X7_holds wm_X7_85 (r_recv C0) rfl rfl ⟨Nat.le_of_ble_eq_true rfl, Nat.le_of_ble_eq_true rfl⟩ (Nat.le_of_ble_eq_true rfl) ⟨Nat.le_refl _, Nat.le_refl _⟩ dX7_claims_14 ?_
    refine j_top (0 : Int32) (by unfold vX7_holds; decide +kernel) ?_
    show J p l e _ s m args below meth c A 2 _ (OV D Y A ad (1 : Int32) (F 1) (F 5) (F 18) (F 19) (F 20) (G 2) (G 3) (G 4) (G 6) (G 7) (G 8) (G 9) (G 10) (G 11) (G 12) (G 13) (G 14) (G 15) (G 16) (G 17) (G 21) (G 22) (G 23) (G 24) (G 25)) 0 0 17 [(0, .ref (ad 0)), (1, .int (a1))] [.int ((0 : Int32))]
    refine j_if_eq C0 29 dX7_claims_17 (by decide) (fun _ => ?_) (fun z => absurd (by decide) z)
    refine j_iconst C0 (v := 0) dX7_claims_29 (by decide) ?_
    exact j_iretE C0 rfl (by rw [vX7_claims, if_pos q1]) dX7_claims_30 (fun H h => by rw [sX7_claims, if_pos q1]; exact h)
  ·
    refine j_iconst C0 (v := 0) dX7_claims_9 (by decide) ?_
    refine j_goto C0 14 dX7_claims_10 (by decide) ?_
    refine j_callVv C0 (k_X7_holds hl ad F G ((0 : Int32)) ) mv_X7_holds wm_X7_85 (r_recv C0) rfl rfl ⟨Nat.le_of_ble_eq_true rfl, Nat.le_of_ble_eq_true rfl⟩ (Nat.le_of_ble_eq_true rfl) ⟨Nat.le_refl _, Nat.le_refl _⟩ dX7_claims_14 ?_
    refine j_top (1 : Int32) (by unfold vX7_holds; decide +kernel) ?_
    show J p l e _ s m args below meth c A 2 _ (OV D Y A ad (0 : Int32) (F 1) (F 5) (F 18) (F 19) (F 20) (G 2) (G 3) (G 4) (G 6) (G 7) (G 8) (G 9) (G 10) (G 11) (G 12) (G 13) (G 14) (G 15) (G 16) (G 17) (G 21) (G 22) (G 23) (G 24) (G 25)) 0 0 17 [(0, .ref (ad 0)), (1, .int (a1))] [.int ((1 : Int32))]
    refine j_if_eq C0 29 dX7_claims_17 (by decide) (fun z => absurd z (by decide)) (fun _ => ?_)
    refine j_aload_n C0 dX7_claims_20 rfl ?_
    refine r_gf_15 C0 dX7_claims_21 ?_
    refine j_iload_n C0 dX7_claims_24 rfl ?_
    refine r_ld_15 C0 (v := ((G 15) (a1).toNatClampNeg)) (isShip_vp hs q1) dX7_claims_25 rfl ?_
    refine j_goto C0 30 dX7_claims_26 (by decide) ?_
    exact j_iretE C0 rfl (by rw [vX7_claims, if_neg q1]) dX7_claims_30 (fun H h => by rw [sX7_claims, if_neg q1]; exact h)
/-! ## queue(I)I -/
def bX7_queue_26 (F : Nat → Int32) (G : Nat → Nat → Int32) (a1 : Int32) (j26 : Nat) (v26 : Int32) : Int32 := (if ((G 11) (nI j26).toNatClampNeg) = (-1 : Int32) then ((v26 + (0 : Int32))) else (if (vX7_isAhead (hu F 0 (0 : Int32)) G (nI j26) (a1)) = 0 then ((v26 + (0 : Int32))) else ((v26 + (1 : Int32)))))
def vX7_queue (F : Nat → Int32) (G : Nat → Nat → Int32) (a1 : Int32) : Int32 := (if (vX7_isShip F G (a1)) = 0 then (0 : Int32) else (if ((G 11) (a1).toNatClampNeg) = (-1 : Int32) then (-1 : Int32) else (nf (bX7_queue_26 F G a1) ((0 : Int32)) ((F 5).toNatClampNeg))))
def sX7_queue (F : Nat → Int32) (G : Nat → Nat → Int32) (a1 : Int32) : (Nat → Int32) × (Nat → Nat → Int32) := (if (vX7_isShip F G (a1)) = 0 then ((hu F 0 (1 : Int32)), G) else (if ((G 11) (a1).toNatClampNeg) = (-1 : Int32) then ((hu F 0 (0 : Int32)), G) else ((hu F 0 (0 : Int32)), G)))
set_option maxRecDepth 100000 in
set_option maxHeartbeats 4000000 in
theorem k_X7_queue {l : Launch} (hl : l.stackTraces = false) {D : va_G} {Y : Nat → ClassId} {A : Nat → Prop} {E : State → Prop} (ad : Nat → Nat) (F : Nat → Int32) (G : Nat → Nat → Int32) (a1 : Int32) (hI : RI F G) : KM l yX7_queue cX7_queue 4 (some .int) D Y A E 2 43 0 0 [.ref (ad 0), .int (a1)] (OR D Y A ad F G) (some (.int (vX7_queue F G a1))) (OR D Y A ad (sX7_queue F G a1).1 (sX7_queue F G a1).2) := by
  refine KM_of RX7 [(0, .ref (ad 0)), (1, .int (a1))] rfl (by decide) hl (Nat.le_of_ble_eq_true rfl) rfl (lok_of rfl rfl) ?_
  intro p e s m args below meth c C0
  obtain ⟨hn, hs, hm, hb, hw, hr⟩ := id hI
  have hsc := hs.cl (by decide)
  refine j_aload_n C0 dX7_queue_0 rfl ?_
  refine j_aload_n C0 dX7_queue_1 rfl ?_
  refine j_iload_n C0 dX7_queue_2 rfl ?_
  refine j_callVv C0 (k_X7_isShip hl ad F G (a1) ) mv_X7_isShip wm_X7_99 (r_recv C0) rfl rfl ⟨Nat.le_of_ble_eq_true rfl, Nat.le_of_ble_eq_true rfl⟩ (Nat.le_of_ble_eq_true rfl) ⟨Nat.le_refl _, Nat.le_refl _⟩ dX7_queue_3 ?_
  refine j_if_eq C0 13 dX7_queue_6 (by decide) (fun (q1 : (vX7_isShip F G (a1)) = 0) => ?_) (fun (q1 : ¬ ((vX7_isShip F G (a1)) = 0)) => ?_)
  ·
    refine j_iconst C0 (v := 1) dX7_queue_13 (by decide) ?_
    refine j_callVv C0 (k_X7_holds hl ad F G ((1 : Int32)) ) mv_X7_holds wm_X7_85 (r_recv C0) rfl rfl ⟨Nat.le_of_ble_eq_true rfl, Nat.le_of_ble_eq_true rfl⟩ (Nat.le_of_ble_eq_true rfl) ⟨Nat.le_refl _, Nat.le_refl _⟩ dX7_queue_14 ?_
    refine j_top (0 : Int32) (by unfold vX7_holds; decide +kernel) ?_
    show J p l e _ s m args below meth c A 4 _ (OV D Y A ad (1 : Int32) (F 1) (F 5) (F 18) (F 19) (F 20) (G 2) (G 3) (G 4) (G 6) (G 7) (G 8) (G 9) (G 10) (G 11) (G 12) (G 13) (G 14) (G 15) (G 16) (G 17) (G 21) (G 22) (G 23) (G 24) (G 25)) 0 0 17 [(0, .ref (ad 0)), (1, .int (a1))] [.int ((0 : Int32))]
    refine j_if_ne C0 22 dX7_queue_17 (by decide) (fun z => absurd (by decide) z) (fun _ => ?_)
    refine j_iconst C0 (v := 0) dX7_queue_20 (by decide) ?_
    exact j_iretE C0 rfl (by rw [vX7_queue, if_pos q1]) dX7_queue_21 (fun H h => by rw [sX7_queue, if_pos q1]; exact h)
  ·
    refine j_iconst C0 (v := 0) dX7_queue_9 (by decide) ?_
    refine j_goto C0 14 dX7_queue_10 (by decide) ?_
    refine j_callVv C0 (k_X7_holds hl ad F G ((0 : Int32)) ) mv_X7_holds wm_X7_85 (r_recv C0) rfl rfl ⟨Nat.le_of_ble_eq_true rfl, Nat.le_of_ble_eq_true rfl⟩ (Nat.le_of_ble_eq_true rfl) ⟨Nat.le_refl _, Nat.le_refl _⟩ dX7_queue_14 ?_
    refine j_top (1 : Int32) (by unfold vX7_holds; decide +kernel) ?_
    show J p l e _ s m args below meth c A 4 _ (OV D Y A ad (0 : Int32) (F 1) (F 5) (F 18) (F 19) (F 20) (G 2) (G 3) (G 4) (G 6) (G 7) (G 8) (G 9) (G 10) (G 11) (G 12) (G 13) (G 14) (G 15) (G 16) (G 17) (G 21) (G 22) (G 23) (G 24) (G 25)) 0 0 17 [(0, .ref (ad 0)), (1, .int (a1))] [.int ((1 : Int32))]
    refine j_if_ne C0 22 dX7_queue_17 (by decide) (fun _ => ?_) (fun z => absurd z (by decide))
    refine j_iconst C0 (v := 0) dX7_queue_22 (by decide) ?_
    refine j_istore_n C0 (L' := [(0, .ref (ad 0)), (1, .int (a1)), (2, .int ((0 : Int32)))]) dX7_queue_23 (by decide) rfl ?_
    refine j_iconst C0 (v := 0) dX7_queue_24 (by decide) ?_
    refine j_istore_n C0 (L' := [(0, .ref (ad 0)), (1, .int (a1)), (2, .int ((0 : Int32))), (3, .int ((0 : Int32)))]) dX7_queue_25 (by decide) rfl ?_
    refine hb_lp (P := fun (j : Nat) (v : Int32) => J p l e _ s m args below meth c A 4 _ (OV D Y A ad (0 : Int32) (F 1) (F 5) (F 18) (F 19) (F 20) (G 2) (G 3) (G 4) (G 6) (G 7) (G 8) (G 9) (G 10) (G 11) (G 12) (G 13) (G 14) (G 15) (G 16) (G 17) (G 21) (G 22) (G 23) (G 24) (G 25)) 0 0 26 [(0, .ref (ad 0)), (1, .int (a1)), (2, .int (v)), (3, .int (nI j))] []) (bX7_queue_26 F G a1) ((0 : Int32)) ((F 5).toNatClampNeg) ?_ ?_
    ·
      intro j26 hj26 K26
      generalize nf (bX7_queue_26 F G a1) ((0 : Int32)) j26 = v26 at K26 ⊢
      show J p l e _ s m args below meth c A 4 _ (OV D Y A ad (0 : Int32) (F 1) (F 5) (F 18) (F 19) (F 20) (G 2) (G 3) (G 4) (G 6) (G 7) (G 8) (G 9) (G 10) (G 11) (G 12) (G 13) (G 14) (G 15) (G 16) (G 17) (G 21) (G 22) (G 23) (G 24) (G 25)) 0 0 26 [(0, .ref (ad 0)), (1, .int (a1)), (2, .int (v26)), (3, .int (nI j26))] []
      replace K26 : J p l e _ s m args below meth c A 4 _ (OV D Y A ad (0 : Int32) (F 1) (F 5) (F 18) (F 19) (F 20) (G 2) (G 3) (G 4) (G 6) (G 7) (G 8) (G 9) (G 10) (G 11) (G 12) (G 13) (G 14) (G 15) (G 16) (G 17) (G 21) (G 22) (G 23) (G 24) (G 25)) 0 0 26 [(0, .ref (ad 0)), (1, .int (a1)), (2, .int ((bX7_queue_26 F G a1 j26 v26))), (3, .int (nI (j26 + 1)))] [] := K26
      refine j_iload_n C0 dX7_queue_26 rfl ?_
      refine j_aload_n C0 dX7_queue_27 rfl ?_
      refine r_gf_5 C0 (v := (F 5)) dX7_queue_28 rfl ?_
      refine j_icmp_ge C0 67 dX7_queue_31 (by decide) (fun z => absurd z (cl_lt rfl hj26)) (fun _ => ?_)
      refine j_iload_n C0 dX7_queue_34 rfl ?_
      refine j_aload_n C0 dX7_queue_35 rfl ?_
      refine r_gf_11 C0 dX7_queue_36 ?_
      refine j_iload_n C0 dX7_queue_39 rfl ?_
      refine r_ld_11 C0 (v := ((G 11) (nI j26).toNatClampNeg)) (vp_nI (by omega) (by decide)) dX7_queue_40 rfl ?_
      refine j_iconst C0 (v := -1) dX7_queue_41 (by decide) ?_
      refine j_icmp_eq C0 58 dX7_queue_42 (by decide) (fun (q5 : ((G 11) (nI j26).toNatClampNeg) = (-1 : Int32)) => ?_) (fun (q5 : ¬ (((G 11) (nI j26).toNatClampNeg) = (-1 : Int32))) => ?_)
      ·
        refine j_iconst C0 (v := 0) dX7_queue_58 (by decide) ?_
        refine j_iadd C0 dX7_queue_59 ?_
        refine j_istore_n C0 (L' := [(0, .ref (ad 0)), (1, .int (a1)), (2, .int ((v26 + (0 : Int32)))), (3, .int (nI j26))]) dX7_queue_60 (by decide) rfl ?_
        refine j_iinc C0 (v := nI (j26 + 1)) (L' := [(0, .ref (ad 0)), (1, .int (a1)), (2, .int ((v26 + (0 : Int32)))), (3, .int (nI (j26 + 1)))]) dX7_queue_61 rfl (nI_inc j26) (by decide) rfl ?_
        refine j_goto C0 26 dX7_queue_64 (by decide) ?_
        rw [bX7_queue_26, if_pos q5] at K26
        exact K26
      ·
        refine j_aload_n C0 dX7_queue_45 rfl ?_
        refine j_iload_n C0 dX7_queue_46 rfl ?_
        refine j_iload_n C0 dX7_queue_47 rfl ?_
        refine j_callVv C0 (k_X7_isAhead hl ad (hu F 0 (0 : Int32)) G (nI j26) (a1) (vp_nI (by omega) (by decide)) (isShip_vp hs q1)) mv_X7_isAhead wm_X7_110 (r_recv C0) rfl rfl ⟨Nat.le_of_ble_eq_true rfl, Nat.le_of_ble_eq_true rfl⟩ (Nat.le_of_ble_eq_true rfl) ⟨Nat.le_refl _, Nat.le_refl _⟩ dX7_queue_48 ?_
        refine j_if_eq C0 58 dX7_queue_51 (by decide) (fun (q6 : (vX7_isAhead (hu F 0 (0 : Int32)) G (nI j26) (a1)) = 0) => ?_) (fun (q6 : ¬ ((vX7_isAhead (hu F 0 (0 : Int32)) G (nI j26) (a1)) = 0)) => ?_)
        ·
          refine j_iconst C0 (v := 0) dX7_queue_58 (by decide) ?_
          refine j_iadd C0 dX7_queue_59 ?_
          refine j_istore_n C0 (L' := [(0, .ref (ad 0)), (1, .int (a1)), (2, .int ((v26 + (0 : Int32)))), (3, .int (nI j26))]) dX7_queue_60 (by decide) rfl ?_
          refine j_iinc C0 (v := nI (j26 + 1)) (L' := [(0, .ref (ad 0)), (1, .int (a1)), (2, .int ((v26 + (0 : Int32)))), (3, .int (nI (j26 + 1)))]) dX7_queue_61 rfl (nI_inc j26) (by decide) rfl ?_
          refine j_goto C0 26 dX7_queue_64 (by decide) ?_
          rw [bX7_queue_26, if_neg q5, if_pos q6] at K26
          exact K26
        ·
          refine j_iconst C0 (v := 1) dX7_queue_54 (by decide) ?_
          refine j_goto C0 59 dX7_queue_55 (by decide) ?_
          refine j_iadd C0 dX7_queue_59 ?_
          refine j_istore_n C0 (L' := [(0, .ref (ad 0)), (1, .int (a1)), (2, .int ((v26 + (1 : Int32)))), (3, .int (nI j26))]) dX7_queue_60 (by decide) rfl ?_
          refine j_iinc C0 (v := nI (j26 + 1)) (L' := [(0, .ref (ad 0)), (1, .int (a1)), (2, .int ((v26 + (1 : Int32)))), (3, .int (nI (j26 + 1)))]) dX7_queue_61 rfl (nI_inc j26) (by decide) rfl ?_
          refine j_goto C0 26 dX7_queue_64 (by decide) ?_
          rw [bX7_queue_26, if_neg q5, if_neg q6] at K26
          exact K26
    ·
      show J p l e _ s m args below meth c A 4 _ (OV D Y A ad (0 : Int32) (F 1) (F 5) (F 18) (F 19) (F 20) (G 2) (G 3) (G 4) (G 6) (G 7) (G 8) (G 9) (G 10) (G 11) (G 12) (G 13) (G 14) (G 15) (G 16) (G 17) (G 21) (G 22) (G 23) (G 24) (G 25)) 0 0 26 [(0, .ref (ad 0)), (1, .int (a1)), (2, .int ((nf (bX7_queue_26 F G a1) ((0 : Int32)) ((F 5).toNatClampNeg)))), (3, .int (nI (((F 5).toNatClampNeg))))] []
      refine j_iload_n C0 dX7_queue_26 rfl ?_
      refine j_aload_n C0 dX7_queue_27 rfl ?_
      refine r_gf_5 C0 (v := (F 5)) dX7_queue_28 rfl ?_
      refine j_icmp_ge C0 67 dX7_queue_31 (by decide) (fun _ => ?_) (fun z => absurd (cl_le rfl) z)
      refine j_aload_n C0 dX7_queue_67 rfl ?_
      refine r_gf_11 C0 dX7_queue_68 ?_
      refine j_iload_n C0 dX7_queue_71 rfl ?_
      refine r_ld_11 C0 (v := ((G 11) (a1).toNatClampNeg)) (isShip_vp hs q1) dX7_queue_72 rfl ?_
      refine j_iconst C0 (v := -1) dX7_queue_73 (by decide) ?_
      refine j_icmp_ne C0 81 dX7_queue_74 (by decide) (fun (q8 : ¬ (((G 11) (a1).toNatClampNeg) = (-1 : Int32))) => ?_) (fun (q8 : ((G 11) (a1).toNatClampNeg) = (-1 : Int32)) => ?_)
      ·
        refine j_iload_n C0 dX7_queue_81 rfl ?_
        exact j_iretE C0 rfl (by rw [vX7_queue, if_neg q1, if_neg q8]) dX7_queue_82 (fun H h => by rw [sX7_queue, if_neg q1, if_neg q8]; exact h)
      ·
        refine j_iconst C0 (v := -1) dX7_queue_77 (by decide) ?_
        refine j_goto C0 82 dX7_queue_78 (by decide) ?_
        exact j_iretE C0 rfl (by rw [vX7_queue, if_neg q1, if_pos q8]) dX7_queue_82 (fun H h => by rw [sX7_queue, if_neg q1, if_pos q8]; exact h)
theorem placeOf_in {F : Nat → Int32} {G : Nat → Nat → Int32} {a : Int32} (h : ∃ j, j < 6 ∧ G 16 j = a) : vp_in (vX7_placeOf F G a) 6 := by
  obtain ⟨j, hj, he⟩ := h
  have key : ∀ N, N ≤ 6 → (j < N → vp_in (nf (bX7_placeOf_4 F G a) (-1 : Int32) N) 6) := by
    intro N
    induction N with
    | zero => intro _ h; omega
    | succ n ih =>
      intro hn hjn
      rw [nf, bX7_placeOf_4]
      split
      · exact vp_in_nI (by omega) (by decide)
      · rename_i hq
        rw [nI_clamp (by omega)] at hq
        refine ih (by omega) ?_
        rcases Nat.lt_or_ge j n with q | q
        · exact q
        · have : j = n := by omega
          subst this
          exact absurd he hq
  exact key 6 (by decide) hj
/-! ## swap(II)I -/
def vX7_swap (F : Nat → Int32) (G : Nat → Nat → Int32) (a1 : Int32) (a2 : Int32) : Int32 := (if (vX7_isPilot (a1)) = 0 then (0 : Int32) else (if (vX7_isPilot (a2)) = 0 then (0 : Int32) else (if a1 = a2 then (0 : Int32) else (vX7_placeOf (hu F 0 (0 : Int32)) G (a2)))))
def sX7_swap (F : Nat → Int32) (G : Nat → Nat → Int32) (a1 : Int32) (a2 : Int32) : (Nat → Int32) × (Nat → Nat → Int32) := (if (vX7_isPilot (a1)) = 0 then ((hu F 0 (1 : Int32)), G) else (if (vX7_isPilot (a2)) = 0 then ((hu F 0 (1 : Int32)), G) else (if a1 = a2 then ((hu F 0 (2 : Int32)), G) else ((hu F 0 (0 : Int32)), (hu G 16 (upd (upd (G 16) ((vX7_placeOf (hu F 0 (0 : Int32)) G (a1))).toNatClampNeg (a2)) ((vX7_placeOf (hu F 0 (0 : Int32)) G (a2))).toNatClampNeg (a1)))))))
set_option maxRecDepth 100000 in
set_option maxHeartbeats 4000000 in
theorem k_X7_swap {l : Launch} (hl : l.stackTraces = false) {D : va_G} {Y : Nat → ClassId} {A : Nat → Prop} {E : State → Prop} (ad : Nat → Nat) (F : Nat → Int32) (G : Nat → Nat → Int32) (a1 : Int32) (a2 : Int32) (hI : RI F G) (hpm : ∀ a, vp_in a 6 → ∃ j, j < 6 ∧ G 16 j = a) : KM l yX7_swap cX7_swap 5 (some .int) D Y A E 2 42 0 0 [.ref (ad 0), .int (a1), .int (a2)] (OR D Y A ad F G) (some (.int (vX7_swap F G a1 a2))) (OR D Y A ad (sX7_swap F G a1 a2).1 (sX7_swap F G a1 a2).2) := by
  refine KM_of RX7 [(0, .ref (ad 0)), (1, .int (a1)), (2, .int (a2))] rfl (by decide) hl (Nat.le_of_ble_eq_true rfl) rfl (lok_of rfl rfl) ?_
  intro p e s m args below meth c C0
  obtain ⟨hn, hs, hm, hb, hw, hr⟩ := id hI
  refine j_aload_n C0 dX7_swap_0 rfl ?_
  refine j_iload_n C0 dX7_swap_1 rfl ?_
  refine j_callSv C0 (k_X7_isPilot hl (a1) ) ms_X7_isPilot wm_X7_116 rfl rfl ⟨Nat.le_of_ble_eq_true rfl, Nat.le_of_ble_eq_true rfl⟩ (Nat.le_of_ble_eq_true rfl) ⟨Nat.le_refl _, Nat.le_refl _⟩ dX7_swap_2 ?_
  refine j_if_eq C0 15 dX7_swap_5 (by decide) (fun (q1 : (vX7_isPilot (a1)) = 0) => ?_) (fun (q1 : ¬ ((vX7_isPilot (a1)) = 0)) => ?_)
  ·
    refine j_iconst C0 (v := 1) dX7_swap_15 (by decide) ?_
    refine j_goto C0 29 dX7_swap_16 (by decide) ?_
    refine j_callVv C0 (k_X7_holds hl ad F G ((1 : Int32)) ) mv_X7_holds wm_X7_85 (r_recv C0) rfl rfl ⟨Nat.le_of_ble_eq_true rfl, Nat.le_of_ble_eq_true rfl⟩ (Nat.le_of_ble_eq_true rfl) ⟨Nat.le_refl _, Nat.le_refl _⟩ dX7_swap_29 ?_
    refine j_top (0 : Int32) (by unfold vX7_holds; decide +kernel) ?_
    show J p l e _ s m args below meth c A 5 _ (OV D Y A ad (1 : Int32) (F 1) (F 5) (F 18) (F 19) (F 20) (G 2) (G 3) (G 4) (G 6) (G 7) (G 8) (G 9) (G 10) (G 11) (G 12) (G 13) (G 14) (G 15) (G 16) (G 17) (G 21) (G 22) (G 23) (G 24) (G 25)) 0 0 32 [(0, .ref (ad 0)), (1, .int (a1)), (2, .int (a2))] [.int ((0 : Int32))]
    refine j_if_ne C0 37 dX7_swap_32 (by decide) (fun z => absurd (by decide) z) (fun _ => ?_)
    refine j_iconst C0 (v := 0) dX7_swap_35 (by decide) ?_
    exact j_iretE C0 rfl (by rw [vX7_swap, if_pos q1]) dX7_swap_36 (fun H h => by rw [sX7_swap, if_pos q1]; exact h)
  ·
    refine j_iload_n C0 dX7_swap_8 rfl ?_
    refine j_callSv C0 (k_X7_isPilot hl (a2) ) ms_X7_isPilot wm_X7_116 rfl rfl ⟨Nat.le_of_ble_eq_true rfl, Nat.le_of_ble_eq_true rfl⟩ (Nat.le_of_ble_eq_true rfl) ⟨Nat.le_refl _, Nat.le_refl _⟩ dX7_swap_9 ?_
    refine j_if_ne C0 19 dX7_swap_12 (by decide) (fun (q3 : ¬ ((vX7_isPilot (a2)) = 0)) => ?_) (fun (q3 : (vX7_isPilot (a2)) = 0) => ?_)
    ·
      refine j_iload_n C0 dX7_swap_19 rfl ?_
      refine j_iload_n C0 dX7_swap_20 rfl ?_
      refine j_icmp_ne C0 28 dX7_swap_21 (by decide) (fun (q4 : ¬ (a1 = a2)) => ?_) (fun (q4 : a1 = a2) => ?_)
      ·
        refine j_iconst C0 (v := 0) dX7_swap_28 (by decide) ?_
        refine j_callVv C0 (k_X7_holds hl ad F G ((0 : Int32)) ) mv_X7_holds wm_X7_85 (r_recv C0) rfl rfl ⟨Nat.le_of_ble_eq_true rfl, Nat.le_of_ble_eq_true rfl⟩ (Nat.le_of_ble_eq_true rfl) ⟨Nat.le_refl _, Nat.le_refl _⟩ dX7_swap_29 ?_
        refine j_top (1 : Int32) (by unfold vX7_holds; decide +kernel) ?_
        show J p l e _ s m args below meth c A 5 _ (OV D Y A ad (0 : Int32) (F 1) (F 5) (F 18) (F 19) (F 20) (G 2) (G 3) (G 4) (G 6) (G 7) (G 8) (G 9) (G 10) (G 11) (G 12) (G 13) (G 14) (G 15) (G 16) (G 17) (G 21) (G 22) (G 23) (G 24) (G 25)) 0 0 32 [(0, .ref (ad 0)), (1, .int (a1)), (2, .int (a2))] [.int ((1 : Int32))]
        refine j_if_ne C0 37 dX7_swap_32 (by decide) (fun _ => ?_) (fun z => absurd z (by decide))
        refine j_aload_n C0 dX7_swap_37 rfl ?_
        refine j_iload_n C0 dX7_swap_38 rfl ?_
        refine j_callVv C0 (k_X7_placeOf hl ad (hu F 0 (0 : Int32)) G (a1) ) mv_X7_placeOf wm_X7_119 (r_recv C0) rfl rfl ⟨Nat.le_of_ble_eq_true rfl, Nat.le_of_ble_eq_true rfl⟩ (Nat.le_of_ble_eq_true rfl) ⟨Nat.le_refl _, Nat.le_refl _⟩ dX7_swap_39 ?_
        refine j_istore_n C0 (L' := [(0, .ref (ad 0)), (1, .int (a1)), (2, .int (a2)), (3, .int ((vX7_placeOf (hu F 0 (0 : Int32)) G (a1))))]) dX7_swap_42 (by decide) rfl ?_
        refine j_aload_n C0 dX7_swap_43 rfl ?_
        refine j_iload_n C0 dX7_swap_44 rfl ?_
        refine j_callVv C0 (k_X7_placeOf hl ad (hu F 0 (0 : Int32)) G (a2) ) mv_X7_placeOf wm_X7_119 (r_recv C0) rfl rfl ⟨Nat.le_of_ble_eq_true rfl, Nat.le_of_ble_eq_true rfl⟩ (Nat.le_of_ble_eq_true rfl) ⟨Nat.le_refl _, Nat.le_refl _⟩ dX7_swap_45 ?_
        refine j_istore C0 (L' := [(0, .ref (ad 0)), (1, .int (a1)), (2, .int (a2)), (3, .int ((vX7_placeOf (hu F 0 (0 : Int32)) G (a1)))), (4, .int ((vX7_placeOf (hu F 0 (0 : Int32)) G (a2))))]) dX7_swap_48 (by decide) rfl ?_
        refine j_aload_n C0 dX7_swap_50 rfl ?_
        refine r_gf_16 C0 dX7_swap_51 ?_
        refine j_iload_n C0 dX7_swap_54 rfl ?_
        refine j_iload_n C0 dX7_swap_55 rfl ?_
        refine r_st_16 C0 (placeOf_in (hpm _ (isPilot_vp q1))) dX7_swap_56 ?_
        refine j_aload_n C0 dX7_swap_57 rfl ?_
        refine r_gf_16 C0 dX7_swap_58 ?_
        refine j_iload C0 dX7_swap_61 rfl ?_
        refine j_iload_n C0 dX7_swap_63 rfl ?_
        refine r_st_16 C0 (placeOf_in (hpm _ (isPilot_vp q3))) dX7_swap_64 ?_
        refine j_iload C0 dX7_swap_65 rfl ?_
        exact j_iretE C0 rfl (by rw [vX7_swap, if_neg q1, if_neg q3, if_neg q4]) dX7_swap_67 (fun H h => by rw [sX7_swap, if_neg q1, if_neg q3, if_neg q4]; exact h)
      ·
        refine j_iconst C0 (v := 2) dX7_swap_24 (by decide) ?_
        refine j_goto C0 29 dX7_swap_25 (by decide) ?_
        refine j_callVv C0 (k_X7_holds hl ad F G ((2 : Int32)) ) mv_X7_holds wm_X7_85 (r_recv C0) rfl rfl ⟨Nat.le_of_ble_eq_true rfl, Nat.le_of_ble_eq_true rfl⟩ (Nat.le_of_ble_eq_true rfl) ⟨Nat.le_refl _, Nat.le_refl _⟩ dX7_swap_29 ?_
        refine j_top (0 : Int32) (by unfold vX7_holds; decide +kernel) ?_
        show J p l e _ s m args below meth c A 5 _ (OV D Y A ad (2 : Int32) (F 1) (F 5) (F 18) (F 19) (F 20) (G 2) (G 3) (G 4) (G 6) (G 7) (G 8) (G 9) (G 10) (G 11) (G 12) (G 13) (G 14) (G 15) (G 16) (G 17) (G 21) (G 22) (G 23) (G 24) (G 25)) 0 0 32 [(0, .ref (ad 0)), (1, .int (a1)), (2, .int (a2))] [.int ((0 : Int32))]
        refine j_if_ne C0 37 dX7_swap_32 (by decide) (fun z => absurd (by decide) z) (fun _ => ?_)
        refine j_iconst C0 (v := 0) dX7_swap_35 (by decide) ?_
        exact j_iretE C0 rfl (by rw [vX7_swap, if_neg q1, if_neg q3, if_pos q4]) dX7_swap_36 (fun H h => by rw [sX7_swap, if_neg q1, if_neg q3, if_pos q4]; exact h)
    ·
      refine j_iconst C0 (v := 1) dX7_swap_15 (by decide) ?_
      refine j_goto C0 29 dX7_swap_16 (by decide) ?_
      refine j_callVv C0 (k_X7_holds hl ad F G ((1 : Int32)) ) mv_X7_holds wm_X7_85 (r_recv C0) rfl rfl ⟨Nat.le_of_ble_eq_true rfl, Nat.le_of_ble_eq_true rfl⟩ (Nat.le_of_ble_eq_true rfl) ⟨Nat.le_refl _, Nat.le_refl _⟩ dX7_swap_29 ?_
      refine j_top (0 : Int32) (by unfold vX7_holds; decide +kernel) ?_
      show J p l e _ s m args below meth c A 5 _ (OV D Y A ad (1 : Int32) (F 1) (F 5) (F 18) (F 19) (F 20) (G 2) (G 3) (G 4) (G 6) (G 7) (G 8) (G 9) (G 10) (G 11) (G 12) (G 13) (G 14) (G 15) (G 16) (G 17) (G 21) (G 22) (G 23) (G 24) (G 25)) 0 0 32 [(0, .ref (ad 0)), (1, .int (a1)), (2, .int (a2))] [.int ((0 : Int32))]
      refine j_if_ne C0 37 dX7_swap_32 (by decide) (fun z => absurd (by decide) z) (fun _ => ?_)
      refine j_iconst C0 (v := 0) dX7_swap_35 (by decide) ?_
      exact j_iretE C0 rfl (by rw [vX7_swap, if_neg q1, if_pos q3]) dX7_swap_36 (fun H h => by rw [sX7_swap, if_neg q1, if_pos q3]; exact h)
/-! ## rota(I)I -/
def vX7_rota (F : Nat → Int32) (G : Nat → Nat → Int32) (a1 : Int32) : Int32 := (if (vX7_isPilot (a1)) = 0 then (0 : Int32) else ((G 16) (a1).toNatClampNeg))
def sX7_rota (F : Nat → Int32) (G : Nat → Nat → Int32) (a1 : Int32) : (Nat → Int32) × (Nat → Nat → Int32) := (if (vX7_isPilot (a1)) = 0 then ((hu F 0 (1 : Int32)), G) else ((hu F 0 (0 : Int32)), G))
set_option maxRecDepth 100000 in
set_option maxHeartbeats 4000000 in
theorem k_X7_rota {l : Launch} (hl : l.stackTraces = false) {D : va_G} {Y : Nat → ClassId} {A : Nat → Prop} {E : State → Prop} (ad : Nat → Nat) (F : Nat → Int32) (G : Nat → Nat → Int32) (a1 : Int32) (hI : RI F G) : KM l yX7_rota cX7_rota 2 (some .int) D Y A E 2 42 0 0 [.ref (ad 0), .int (a1)] (OR D Y A ad F G) (some (.int (vX7_rota F G a1))) (OR D Y A ad (sX7_rota F G a1).1 (sX7_rota F G a1).2) := by
  refine KM_of RX7 [(0, .ref (ad 0)), (1, .int (a1))] rfl (by decide) hl (Nat.le_of_ble_eq_true rfl) rfl (lok_of rfl rfl) ?_
  intro p e s m args below meth c C0
  obtain ⟨hn, hs, hm, hb, hw, hr⟩ := id hI
  refine j_aload_n C0 dX7_rota_0 rfl ?_
  refine j_iload_n C0 dX7_rota_1 rfl ?_
  refine j_callSv C0 (k_X7_isPilot hl (a1) ) ms_X7_isPilot wm_X7_116 rfl rfl ⟨Nat.le_of_ble_eq_true rfl, Nat.le_of_ble_eq_true rfl⟩ (Nat.le_of_ble_eq_true rfl) ⟨Nat.le_refl _, Nat.le_refl _⟩ dX7_rota_2 ?_
  refine j_if_eq C0 12 dX7_rota_5 (by decide) (fun (q1 : (vX7_isPilot (a1)) = 0) => ?_) (fun (q1 : ¬ ((vX7_isPilot (a1)) = 0)) => ?_)
  ·
    refine j_iconst C0 (v := 1) dX7_rota_12 (by decide) ?_
    refine j_callVv C0 (k_X7_holds hl ad F G ((1 : Int32)) ) mv_X7_holds wm_X7_85 (r_recv C0) rfl rfl ⟨Nat.le_of_ble_eq_true rfl, Nat.le_of_ble_eq_true rfl⟩ (Nat.le_of_ble_eq_true rfl) ⟨Nat.le_refl _, Nat.le_refl _⟩ dX7_rota_13 ?_
    refine j_top (0 : Int32) (by unfold vX7_holds; decide +kernel) ?_
    show J p l e _ s m args below meth c A 2 _ (OV D Y A ad (1 : Int32) (F 1) (F 5) (F 18) (F 19) (F 20) (G 2) (G 3) (G 4) (G 6) (G 7) (G 8) (G 9) (G 10) (G 11) (G 12) (G 13) (G 14) (G 15) (G 16) (G 17) (G 21) (G 22) (G 23) (G 24) (G 25)) 0 0 16 [(0, .ref (ad 0)), (1, .int (a1))] [.int ((0 : Int32))]
    refine j_if_eq C0 28 dX7_rota_16 (by decide) (fun _ => ?_) (fun z => absurd (by decide) z)
    refine j_iconst C0 (v := 0) dX7_rota_28 (by decide) ?_
    exact j_iretE C0 rfl (by rw [vX7_rota, if_pos q1]) dX7_rota_29 (fun H h => by rw [sX7_rota, if_pos q1]; exact h)
  ·
    refine j_iconst C0 (v := 0) dX7_rota_8 (by decide) ?_
    refine j_goto C0 13 dX7_rota_9 (by decide) ?_
    refine j_callVv C0 (k_X7_holds hl ad F G ((0 : Int32)) ) mv_X7_holds wm_X7_85 (r_recv C0) rfl rfl ⟨Nat.le_of_ble_eq_true rfl, Nat.le_of_ble_eq_true rfl⟩ (Nat.le_of_ble_eq_true rfl) ⟨Nat.le_refl _, Nat.le_refl _⟩ dX7_rota_13 ?_
    refine j_top (1 : Int32) (by unfold vX7_holds; decide +kernel) ?_
    show J p l e _ s m args below meth c A 2 _ (OV D Y A ad (0 : Int32) (F 1) (F 5) (F 18) (F 19) (F 20) (G 2) (G 3) (G 4) (G 6) (G 7) (G 8) (G 9) (G 10) (G 11) (G 12) (G 13) (G 14) (G 15) (G 16) (G 17) (G 21) (G 22) (G 23) (G 24) (G 25)) 0 0 16 [(0, .ref (ad 0)), (1, .int (a1))] [.int ((1 : Int32))]
    refine j_if_eq C0 28 dX7_rota_16 (by decide) (fun z => absurd z (by decide)) (fun _ => ?_)
    refine j_aload_n C0 dX7_rota_19 rfl ?_
    refine r_gf_16 C0 dX7_rota_20 ?_
    refine j_iload_n C0 dX7_rota_23 rfl ?_
    refine r_ld_16 C0 (v := ((G 16) (a1).toNatClampNeg)) (isPilot_vp q1) dX7_rota_24 rfl ?_
    refine j_goto C0 29 dX7_rota_25 (by decide) ?_
    exact j_iretE C0 rfl (by rw [vX7_rota, if_neg q1]) dX7_rota_29 (fun H h => by rw [sX7_rota, if_neg q1]; exact h)
/-! ## earned(I)I -/
def vX7_earned (F : Nat → Int32) (G : Nat → Nat → Int32) (a1 : Int32) : Int32 := (if (vX7_isPilot (a1)) = 0 then (0 : Int32) else ((G 17) (a1).toNatClampNeg))
def sX7_earned (F : Nat → Int32) (G : Nat → Nat → Int32) (a1 : Int32) : (Nat → Int32) × (Nat → Nat → Int32) := (if (vX7_isPilot (a1)) = 0 then ((hu F 0 (1 : Int32)), G) else ((hu F 0 (0 : Int32)), G))
set_option maxRecDepth 100000 in
set_option maxHeartbeats 4000000 in
theorem k_X7_earned {l : Launch} (hl : l.stackTraces = false) {D : va_G} {Y : Nat → ClassId} {A : Nat → Prop} {E : State → Prop} (ad : Nat → Nat) (F : Nat → Int32) (G : Nat → Nat → Int32) (a1 : Int32) (hI : RI F G) : KM l yX7_earned cX7_earned 2 (some .int) D Y A E 2 42 0 0 [.ref (ad 0), .int (a1)] (OR D Y A ad F G) (some (.int (vX7_earned F G a1))) (OR D Y A ad (sX7_earned F G a1).1 (sX7_earned F G a1).2) := by
  refine KM_of RX7 [(0, .ref (ad 0)), (1, .int (a1))] rfl (by decide) hl (Nat.le_of_ble_eq_true rfl) rfl (lok_of rfl rfl) ?_
  intro p e s m args below meth c C0
  obtain ⟨hn, hs, hm, hb, hw, hr⟩ := id hI
  refine j_aload_n C0 dX7_earned_0 rfl ?_
  refine j_iload_n C0 dX7_earned_1 rfl ?_
  refine j_callSv C0 (k_X7_isPilot hl (a1) ) ms_X7_isPilot wm_X7_116 rfl rfl ⟨Nat.le_of_ble_eq_true rfl, Nat.le_of_ble_eq_true rfl⟩ (Nat.le_of_ble_eq_true rfl) ⟨Nat.le_refl _, Nat.le_refl _⟩ dX7_earned_2 ?_
  refine j_if_eq C0 12 dX7_earned_5 (by decide) (fun (q1 : (vX7_isPilot (a1)) = 0) => ?_) (fun (q1 : ¬ ((vX7_isPilot (a1)) = 0)) => ?_)
  ·
    refine j_iconst C0 (v := 1) dX7_earned_12 (by decide) ?_
    refine j_callVv C0 (k_X7_holds hl ad F G ((1 : Int32)) ) mv_X7_holds wm_X7_85 (r_recv C0) rfl rfl ⟨Nat.le_of_ble_eq_true rfl, Nat.le_of_ble_eq_true rfl⟩ (Nat.le_of_ble_eq_true rfl) ⟨Nat.le_refl _, Nat.le_refl _⟩ dX7_earned_13 ?_
    refine j_top (0 : Int32) (by unfold vX7_holds; decide +kernel) ?_
    show J p l e _ s m args below meth c A 2 _ (OV D Y A ad (1 : Int32) (F 1) (F 5) (F 18) (F 19) (F 20) (G 2) (G 3) (G 4) (G 6) (G 7) (G 8) (G 9) (G 10) (G 11) (G 12) (G 13) (G 14) (G 15) (G 16) (G 17) (G 21) (G 22) (G 23) (G 24) (G 25)) 0 0 16 [(0, .ref (ad 0)), (1, .int (a1))] [.int ((0 : Int32))]
    refine j_if_eq C0 28 dX7_earned_16 (by decide) (fun _ => ?_) (fun z => absurd (by decide) z)
    refine j_iconst C0 (v := 0) dX7_earned_28 (by decide) ?_
    exact j_iretE C0 rfl (by rw [vX7_earned, if_pos q1]) dX7_earned_29 (fun H h => by rw [sX7_earned, if_pos q1]; exact h)
  ·
    refine j_iconst C0 (v := 0) dX7_earned_8 (by decide) ?_
    refine j_goto C0 13 dX7_earned_9 (by decide) ?_
    refine j_callVv C0 (k_X7_holds hl ad F G ((0 : Int32)) ) mv_X7_holds wm_X7_85 (r_recv C0) rfl rfl ⟨Nat.le_of_ble_eq_true rfl, Nat.le_of_ble_eq_true rfl⟩ (Nat.le_of_ble_eq_true rfl) ⟨Nat.le_refl _, Nat.le_refl _⟩ dX7_earned_13 ?_
    refine j_top (1 : Int32) (by unfold vX7_holds; decide +kernel) ?_
    show J p l e _ s m args below meth c A 2 _ (OV D Y A ad (0 : Int32) (F 1) (F 5) (F 18) (F 19) (F 20) (G 2) (G 3) (G 4) (G 6) (G 7) (G 8) (G 9) (G 10) (G 11) (G 12) (G 13) (G 14) (G 15) (G 16) (G 17) (G 21) (G 22) (G 23) (G 24) (G 25)) 0 0 16 [(0, .ref (ad 0)), (1, .int (a1))] [.int ((1 : Int32))]
    refine j_if_eq C0 28 dX7_earned_16 (by decide) (fun z => absurd z (by decide)) (fun _ => ?_)
    refine j_aload_n C0 dX7_earned_19 rfl ?_
    refine r_gf_17 C0 dX7_earned_20 ?_
    refine j_iload_n C0 dX7_earned_23 rfl ?_
    refine r_ld_17 C0 (v := ((G 17) (a1).toNatClampNeg)) (isPilot_vp q1) dX7_earned_24 rfl ?_
    refine j_goto C0 29 dX7_earned_25 (by decide) ?_
    exact j_iretE C0 rfl (by rw [vX7_earned, if_neg q1]) dX7_earned_29 (fun H h => by rw [sX7_earned, if_neg q1]; exact h)
/-! ## isReady(I)Z -/
def vX7_isReady (F : Nat → Int32) (G : Nat → Nat → Int32) (a1 : Int32) : Int32 := (if (vX7_isPilot (a1)) = 0 then (0 : Int32) else (if (vX7_isPilotReady (hu F 0 (0 : Int32)) G (a1)) = 0 then (0 : Int32) else (1 : Int32)))
def sX7_isReady (F : Nat → Int32) (G : Nat → Nat → Int32) (a1 : Int32) : (Nat → Int32) × (Nat → Nat → Int32) := (if (vX7_isPilot (a1)) = 0 then ((hu F 0 (1 : Int32)), G) else (if (vX7_isPilotReady (hu F 0 (0 : Int32)) G (a1)) = 0 then ((hu F 0 (0 : Int32)), G) else ((hu F 0 (0 : Int32)), G)))
set_option maxRecDepth 100000 in
set_option maxHeartbeats 4000000 in
theorem k_X7_isReady {l : Launch} (hl : l.stackTraces = false) {D : va_G} {Y : Nat → ClassId} {A : Nat → Prop} {E : State → Prop} (ad : Nat → Nat) (F : Nat → Int32) (G : Nat → Nat → Int32) (a1 : Int32) (hI : RI F G) : KM l yX7_isReady cX7_isReady 2 (some .boolean) D Y A E 2 42 0 0 [.ref (ad 0), .int (a1)] (OR D Y A ad F G) (some (.int (vX7_isReady F G a1))) (OR D Y A ad (sX7_isReady F G a1).1 (sX7_isReady F G a1).2) := by
  refine KM_of RX7 [(0, .ref (ad 0)), (1, .int (a1))] rfl (by decide) hl (Nat.le_of_ble_eq_true rfl) rfl (lok_of rfl rfl) ?_
  intro p e s m args below meth c C0
  obtain ⟨hn, hs, hm, hb, hw, hr⟩ := id hI
  refine j_aload_n C0 dX7_isReady_0 rfl ?_
  refine j_iload_n C0 dX7_isReady_1 rfl ?_
  refine j_callSv C0 (k_X7_isPilot hl (a1) ) ms_X7_isPilot wm_X7_116 rfl rfl ⟨Nat.le_of_ble_eq_true rfl, Nat.le_of_ble_eq_true rfl⟩ (Nat.le_of_ble_eq_true rfl) ⟨Nat.le_refl _, Nat.le_refl _⟩ dX7_isReady_2 ?_
  refine j_if_eq C0 12 dX7_isReady_5 (by decide) (fun (q1 : (vX7_isPilot (a1)) = 0) => ?_) (fun (q1 : ¬ ((vX7_isPilot (a1)) = 0)) => ?_)
  ·
    refine j_iconst C0 (v := 1) dX7_isReady_12 (by decide) ?_
    refine j_callVv C0 (k_X7_holds hl ad F G ((1 : Int32)) ) mv_X7_holds wm_X7_85 (r_recv C0) rfl rfl ⟨Nat.le_of_ble_eq_true rfl, Nat.le_of_ble_eq_true rfl⟩ (Nat.le_of_ble_eq_true rfl) ⟨Nat.le_refl _, Nat.le_refl _⟩ dX7_isReady_13 ?_
    refine j_top (0 : Int32) (by unfold vX7_holds; decide +kernel) ?_
    show J p l e _ s m args below meth c A 2 _ (OV D Y A ad (1 : Int32) (F 1) (F 5) (F 18) (F 19) (F 20) (G 2) (G 3) (G 4) (G 6) (G 7) (G 8) (G 9) (G 10) (G 11) (G 12) (G 13) (G 14) (G 15) (G 16) (G 17) (G 21) (G 22) (G 23) (G 24) (G 25)) 0 0 16 [(0, .ref (ad 0)), (1, .int (a1))] [.int ((0 : Int32))]
    refine j_if_eq C0 31 dX7_isReady_16 (by decide) (fun _ => ?_) (fun z => absurd (by decide) z)
    refine j_iconst C0 (v := 0) dX7_isReady_31 (by decide) ?_
    exact j_zretE C0 rfl (by rw [vX7_isReady, if_pos q1]) (by decide) dX7_isReady_32 (fun H h => by rw [sX7_isReady, if_pos q1]; exact h)
  ·
    refine j_iconst C0 (v := 0) dX7_isReady_8 (by decide) ?_
    refine j_goto C0 13 dX7_isReady_9 (by decide) ?_
    refine j_callVv C0 (k_X7_holds hl ad F G ((0 : Int32)) ) mv_X7_holds wm_X7_85 (r_recv C0) rfl rfl ⟨Nat.le_of_ble_eq_true rfl, Nat.le_of_ble_eq_true rfl⟩ (Nat.le_of_ble_eq_true rfl) ⟨Nat.le_refl _, Nat.le_refl _⟩ dX7_isReady_13 ?_
    refine j_top (1 : Int32) (by unfold vX7_holds; decide +kernel) ?_
    show J p l e _ s m args below meth c A 2 _ (OV D Y A ad (0 : Int32) (F 1) (F 5) (F 18) (F 19) (F 20) (G 2) (G 3) (G 4) (G 6) (G 7) (G 8) (G 9) (G 10) (G 11) (G 12) (G 13) (G 14) (G 15) (G 16) (G 17) (G 21) (G 22) (G 23) (G 24) (G 25)) 0 0 16 [(0, .ref (ad 0)), (1, .int (a1))] [.int ((1 : Int32))]
    refine j_if_eq C0 31 dX7_isReady_16 (by decide) (fun z => absurd z (by decide)) (fun _ => ?_)
    refine j_aload_n C0 dX7_isReady_19 rfl ?_
    refine j_iload_n C0 dX7_isReady_20 rfl ?_
    refine j_callVv C0 (k_X7_isPilotReady hl ad (hu F 0 (0 : Int32)) G (a1) hm) mv_X7_isPilotReady wm_X7_113 (r_recv C0) rfl rfl ⟨Nat.le_of_ble_eq_true rfl, Nat.le_of_ble_eq_true rfl⟩ (Nat.le_of_ble_eq_true rfl) ⟨Nat.le_refl _, Nat.le_refl _⟩ dX7_isReady_21 ?_
    refine j_if_eq C0 31 dX7_isReady_24 (by decide) (fun (q4 : (vX7_isPilotReady (hu F 0 (0 : Int32)) G (a1)) = 0) => ?_) (fun (q4 : ¬ ((vX7_isPilotReady (hu F 0 (0 : Int32)) G (a1)) = 0)) => ?_)
    ·
      refine j_iconst C0 (v := 0) dX7_isReady_31 (by decide) ?_
      exact j_zretE C0 rfl (by rw [vX7_isReady, if_neg q1, if_pos q4]) (by decide) dX7_isReady_32 (fun H h => by rw [sX7_isReady, if_neg q1, if_pos q4]; exact h)
    ·
      refine j_iconst C0 (v := 1) dX7_isReady_27 (by decide) ?_
      refine j_goto C0 32 dX7_isReady_28 (by decide) ?_
      exact j_zretE C0 rfl (by rw [vX7_isReady, if_neg q1, if_neg q4]) (by decide) dX7_isReady_32 (fun H h => by rw [sX7_isReady, if_neg q1, if_neg q4]; exact h)
/-! ## tugs()I -/
def vX7_tugs (F : Nat → Int32) (G : Nat → Nat → Int32) : Int32 := (vX7_tugsNow (hu F 0 (0 : Int32)) G)
def sX7_tugs (F : Nat → Int32) (G : Nat → Nat → Int32) : (Nat → Int32) × (Nat → Nat → Int32) := ((hu F 0 (0 : Int32)), G)
set_option maxRecDepth 100000 in
set_option maxHeartbeats 4000000 in
theorem k_X7_tugs {l : Launch} (hl : l.stackTraces = false) {D : va_G} {Y : Nat → ClassId} {A : Nat → Prop} {E : State → Prop} (ad : Nat → Nat) (F : Nat → Int32) (G : Nat → Nat → Int32)  (hI : RI F G) : KM l yX7_tugs cX7_tugs 1 (some .int) D Y A E 1 24 0 0 [.ref (ad 0)] (OR D Y A ad F G) (some (.int (vX7_tugs F G))) (OR D Y A ad (sX7_tugs F G).1 (sX7_tugs F G).2) := by
  refine KM_of RX7 [(0, .ref (ad 0))] rfl (by decide) hl (Nat.le_of_ble_eq_true rfl) rfl (lok_of rfl rfl) ?_
  intro p e s m args below meth c C0
  obtain ⟨hn, hs, hm, hb, hw, hr⟩ := id hI
  refine j_aload_n C0 dX7_tugs_0 rfl ?_
  refine j_iconst C0 (v := 0) dX7_tugs_1 (by decide) ?_
  refine r_pf_0 C0 dX7_tugs_2 ?_
  refine j_aload_n C0 dX7_tugs_5 rfl ?_
  refine j_callVv C0 (k_X7_tugsNow hl ad (hu F 0 (0 : Int32)) G  hm) mv_X7_tugsNow wm_X7_122 (r_recv C0) rfl rfl ⟨Nat.le_of_ble_eq_true rfl, Nat.le_of_ble_eq_true rfl⟩ (Nat.le_of_ble_eq_true rfl) ⟨Nat.le_refl _, Nat.le_refl _⟩ dX7_tugs_6 ?_
  exact j_iretE C0 rfl (by rw [vX7_tugs]) dX7_tugs_9 (fun H h => by rw [sX7_tugs]; exact h)
/-! ## moves()I -/
def vX7_moves (F : Nat → Int32) (G : Nat → Nat → Int32) : Int32 := (F 20)
def sX7_moves (F : Nat → Int32) (G : Nat → Nat → Int32) : (Nat → Int32) × (Nat → Nat → Int32) := ((hu F 0 (0 : Int32)), G)
set_option maxRecDepth 100000 in
set_option maxHeartbeats 4000000 in
theorem k_X7_moves {l : Launch} (hl : l.stackTraces = false) {D : va_G} {Y : Nat → ClassId} {A : Nat → Prop} {E : State → Prop} (ad : Nat → Nat) (F : Nat → Int32) (G : Nat → Nat → Int32)  (hI : RI F G) : KM l yX7_moves cX7_moves 1 (some .int) D Y A E 0 0 0 0 [.ref (ad 0)] (OR D Y A ad F G) (some (.int (vX7_moves F G))) (OR D Y A ad (sX7_moves F G).1 (sX7_moves F G).2) := by
  refine KM_of RX7 [(0, .ref (ad 0))] rfl (by decide) hl (Nat.le_of_ble_eq_true rfl) rfl (lok_of rfl rfl) ?_
  intro p e s m args below meth c C0
  obtain ⟨hn, hs, hm, hb, hw, hr⟩ := id hI
  refine j_aload_n C0 dX7_moves_0 rfl ?_
  refine j_iconst C0 (v := 0) dX7_moves_1 (by decide) ?_
  refine r_pf_0 C0 dX7_moves_2 ?_
  refine j_aload_n C0 dX7_moves_5 rfl ?_
  refine r_gf_20 C0 (v := (F 20)) dX7_moves_6 rfl ?_
  exact j_iretE C0 rfl (by rw [vX7_moves]) dX7_moves_9 (fun H h => by rw [sX7_moves]; exact h)
/-! ## tugPay()I -/
def vX7_tugPay (F : Nat → Int32) (G : Nat → Nat → Int32) : Int32 := (F 18)
def sX7_tugPay (F : Nat → Int32) (G : Nat → Nat → Int32) : (Nat → Int32) × (Nat → Nat → Int32) := ((hu F 0 (0 : Int32)), G)
set_option maxRecDepth 100000 in
set_option maxHeartbeats 4000000 in
theorem k_X7_tugPay {l : Launch} (hl : l.stackTraces = false) {D : va_G} {Y : Nat → ClassId} {A : Nat → Prop} {E : State → Prop} (ad : Nat → Nat) (F : Nat → Int32) (G : Nat → Nat → Int32)  (hI : RI F G) : KM l yX7_tugPay cX7_tugPay 1 (some .int) D Y A E 0 0 0 0 [.ref (ad 0)] (OR D Y A ad F G) (some (.int (vX7_tugPay F G))) (OR D Y A ad (sX7_tugPay F G).1 (sX7_tugPay F G).2) := by
  refine KM_of RX7 [(0, .ref (ad 0))] rfl (by decide) hl (Nat.le_of_ble_eq_true rfl) rfl (lok_of rfl rfl) ?_
  intro p e s m args below meth c C0
  obtain ⟨hn, hs, hm, hb, hw, hr⟩ := id hI
  refine j_aload_n C0 dX7_tugPay_0 rfl ?_
  refine j_iconst C0 (v := 0) dX7_tugPay_1 (by decide) ?_
  refine r_pf_0 C0 dX7_tugPay_2 ?_
  refine j_aload_n C0 dX7_tugPay_5 rfl ?_
  refine r_gf_18 C0 (v := (F 18)) dX7_tugPay_6 rfl ?_
  exact j_iretE C0 rfl (by rw [vX7_tugPay]) dX7_tugPay_9 (fun H h => by rw [sX7_tugPay]; exact h)
/-! ## port()I -/
def vX7_port (F : Nat → Int32) (G : Nat → Nat → Int32) : Int32 := (F 19)
def sX7_port (F : Nat → Int32) (G : Nat → Nat → Int32) : (Nat → Int32) × (Nat → Nat → Int32) := ((hu F 0 (0 : Int32)), G)
set_option maxRecDepth 100000 in
set_option maxHeartbeats 4000000 in
theorem k_X7_port {l : Launch} (hl : l.stackTraces = false) {D : va_G} {Y : Nat → ClassId} {A : Nat → Prop} {E : State → Prop} (ad : Nat → Nat) (F : Nat → Int32) (G : Nat → Nat → Int32)  (hI : RI F G) : KM l yX7_port cX7_port 1 (some .int) D Y A E 0 0 0 0 [.ref (ad 0)] (OR D Y A ad F G) (some (.int (vX7_port F G))) (OR D Y A ad (sX7_port F G).1 (sX7_port F G).2) := by
  refine KM_of RX7 [(0, .ref (ad 0))] rfl (by decide) hl (Nat.le_of_ble_eq_true rfl) rfl (lok_of rfl rfl) ?_
  intro p e s m args below meth c C0
  obtain ⟨hn, hs, hm, hb, hw, hr⟩ := id hI
  refine j_aload_n C0 dX7_port_0 rfl ?_
  refine j_iconst C0 (v := 0) dX7_port_1 (by decide) ?_
  refine r_pf_0 C0 dX7_port_2 ?_
  refine j_aload_n C0 dX7_port_5 rfl ?_
  refine r_gf_19 C0 (v := (F 19)) dX7_port_6 rfl ?_
  exact j_iretE C0 rfl (by rw [vX7_port]) dX7_port_9 (fun H h => by rw [sX7_port]; exact h)
/-! ## move(I)I -/
def vX7_move (F : Nat → Int32) (G : Nat → Nat → Int32) (a1 : Int32) : Int32 := (if (vX7_isMove F G (a1)) = 0 then (0 : Int32) else (if ((G 25) (a1).toNatClampNeg) = 0 then (((((10000 : Int32) * ((G 21) (a1).toNatClampNeg)) + ((100 : Int32) * ((G 22) (a1).toNatClampNeg))) + ((10 : Int32) * ((G 23) (a1).toNatClampNeg))) + (0 : Int32)) else (((((10000 : Int32) * ((G 21) (a1).toNatClampNeg)) + ((100 : Int32) * ((G 22) (a1).toNatClampNeg))) + ((10 : Int32) * ((G 23) (a1).toNatClampNeg))) + (1 : Int32))))
def sX7_move (F : Nat → Int32) (G : Nat → Nat → Int32) (a1 : Int32) : (Nat → Int32) × (Nat → Nat → Int32) := (if (vX7_isMove F G (a1)) = 0 then ((hu F 0 (1 : Int32)), G) else (if ((G 25) (a1).toNatClampNeg) = 0 then ((hu F 0 (0 : Int32)), G) else ((hu F 0 (0 : Int32)), G)))
set_option maxRecDepth 100000 in
set_option maxHeartbeats 4000000 in
theorem k_X7_move {l : Launch} (hl : l.stackTraces = false) {D : va_G} {Y : Nat → ClassId} {A : Nat → Prop} {E : State → Prop} (ad : Nat → Nat) (F : Nat → Int32) (G : Nat → Nat → Int32) (a1 : Int32) (hI : RI F G) : KM l yX7_move cX7_move 2 (some .int) D Y A E 2 43 0 0 [.ref (ad 0), .int (a1)] (OR D Y A ad F G) (some (.int (vX7_move F G a1))) (OR D Y A ad (sX7_move F G a1).1 (sX7_move F G a1).2) := by
  refine KM_of RX7 [(0, .ref (ad 0)), (1, .int (a1))] rfl (by decide) hl (Nat.le_of_ble_eq_true rfl) rfl (lok_of rfl rfl) ?_
  intro p e s m args below meth c C0
  obtain ⟨hn, hs, hm, hb, hw, hr⟩ := id hI
  obtain ⟨nm, hnm, hme⟩ := id hm
  refine j_aload_n C0 dX7_move_0 rfl ?_
  refine j_aload_n C0 dX7_move_1 rfl ?_
  refine j_iload_n C0 dX7_move_2 rfl ?_
  refine j_callVv C0 (k_X7_isMove hl ad F G (a1) ) mv_X7_isMove wm_X7_161 (r_recv C0) rfl rfl ⟨Nat.le_of_ble_eq_true rfl, Nat.le_of_ble_eq_true rfl⟩ (Nat.le_of_ble_eq_true rfl) ⟨Nat.le_refl _, Nat.le_refl _⟩ dX7_move_3 ?_
  refine j_if_eq C0 13 dX7_move_6 (by decide) (fun (q1 : (vX7_isMove F G (a1)) = 0) => ?_) (fun (q1 : ¬ ((vX7_isMove F G (a1)) = 0)) => ?_)
  ·
    refine j_iconst C0 (v := 1) dX7_move_13 (by decide) ?_
    refine j_callVv C0 (k_X7_holds hl ad F G ((1 : Int32)) ) mv_X7_holds wm_X7_85 (r_recv C0) rfl rfl ⟨Nat.le_of_ble_eq_true rfl, Nat.le_of_ble_eq_true rfl⟩ (Nat.le_of_ble_eq_true rfl) ⟨Nat.le_refl _, Nat.le_refl _⟩ dX7_move_14 ?_
    refine j_top (0 : Int32) (by unfold vX7_holds; decide +kernel) ?_
    show J p l e _ s m args below meth c A 2 _ (OV D Y A ad (1 : Int32) (F 1) (F 5) (F 18) (F 19) (F 20) (G 2) (G 3) (G 4) (G 6) (G 7) (G 8) (G 9) (G 10) (G 11) (G 12) (G 13) (G 14) (G 15) (G 16) (G 17) (G 21) (G 22) (G 23) (G 24) (G 25)) 0 0 17 [(0, .ref (ad 0)), (1, .int (a1))] [.int ((0 : Int32))]
    refine j_if_eq C0 68 dX7_move_17 (by decide) (fun _ => ?_) (fun z => absurd (by decide) z)
    refine j_iconst C0 (v := 0) dX7_move_68 (by decide) ?_
    exact j_iretE C0 rfl (by rw [vX7_move, if_pos q1]) dX7_move_69 (fun H h => by rw [sX7_move, if_pos q1]; exact h)
  ·
    refine j_iconst C0 (v := 0) dX7_move_9 (by decide) ?_
    refine j_goto C0 14 dX7_move_10 (by decide) ?_
    refine j_callVv C0 (k_X7_holds hl ad F G ((0 : Int32)) ) mv_X7_holds wm_X7_85 (r_recv C0) rfl rfl ⟨Nat.le_of_ble_eq_true rfl, Nat.le_of_ble_eq_true rfl⟩ (Nat.le_of_ble_eq_true rfl) ⟨Nat.le_refl _, Nat.le_refl _⟩ dX7_move_14 ?_
    refine j_top (1 : Int32) (by unfold vX7_holds; decide +kernel) ?_
    show J p l e _ s m args below meth c A 2 _ (OV D Y A ad (0 : Int32) (F 1) (F 5) (F 18) (F 19) (F 20) (G 2) (G 3) (G 4) (G 6) (G 7) (G 8) (G 9) (G 10) (G 11) (G 12) (G 13) (G 14) (G 15) (G 16) (G 17) (G 21) (G 22) (G 23) (G 24) (G 25)) 0 0 17 [(0, .ref (ad 0)), (1, .int (a1))] [.int ((1 : Int32))]
    refine j_if_eq C0 68 dX7_move_17 (by decide) (fun z => absurd z (by decide)) (fun _ => ?_)
    refine j_sipush C0 (v := 10000) dX7_move_20 (by decide) ?_
    refine j_aload_n C0 dX7_move_23 rfl ?_
    refine r_gf_21 C0 dX7_move_24 ?_
    refine j_iload_n C0 dX7_move_27 rfl ?_
    refine r_ld_21 C0 (v := ((G 21) (a1).toNatClampNeg)) (vp_mono (isMove_lt hnm hme q1) hnm) dX7_move_28 rfl ?_
    refine j_imul C0 dX7_move_29 ?_
    refine j_bipush C0 (v := 100) dX7_move_30 (by decide) ?_
    refine j_aload_n C0 dX7_move_32 rfl ?_
    refine r_gf_22 C0 dX7_move_33 ?_
    refine j_iload_n C0 dX7_move_36 rfl ?_
    refine r_ld_22 C0 (v := ((G 22) (a1).toNatClampNeg)) (vp_mono (isMove_lt hnm hme q1) hnm) dX7_move_37 rfl ?_
    refine j_imul C0 dX7_move_38 ?_
    refine j_iadd C0 dX7_move_39 ?_
    refine j_bipush C0 (v := 10) dX7_move_40 (by decide) ?_
    refine j_aload_n C0 dX7_move_42 rfl ?_
    refine r_gf_23 C0 dX7_move_43 ?_
    refine j_iload_n C0 dX7_move_46 rfl ?_
    refine r_ld_23 C0 (v := ((G 23) (a1).toNatClampNeg)) (vp_mono (isMove_lt hnm hme q1) hnm) dX7_move_47 rfl ?_
    refine j_imul C0 dX7_move_48 ?_
    refine j_iadd C0 dX7_move_49 ?_
    refine j_aload_n C0 dX7_move_50 rfl ?_
    refine r_gf_25 C0 dX7_move_51 ?_
    refine j_iload_n C0 dX7_move_54 rfl ?_
    refine r_ld_25 C0 (v := ((G 25) (a1).toNatClampNeg)) (vp_mono (isMove_lt hnm hme q1) hnm) dX7_move_55 rfl ?_
    refine j_if_eq C0 63 dX7_move_56 (by decide) (fun (q4 : ((G 25) (a1).toNatClampNeg) = 0) => ?_) (fun (q4 : ¬ (((G 25) (a1).toNatClampNeg) = 0)) => ?_)
    ·
      refine j_iconst C0 (v := 0) dX7_move_63 (by decide) ?_
      refine j_iadd C0 dX7_move_64 ?_
      refine j_goto C0 69 dX7_move_65 (by decide) ?_
      exact j_iretE C0 rfl (by rw [vX7_move, if_neg q1, if_pos q4]) dX7_move_69 (fun H h => by rw [sX7_move, if_neg q1, if_pos q4]; exact h)
    ·
      refine j_iconst C0 (v := 1) dX7_move_59 (by decide) ?_
      refine j_goto C0 64 dX7_move_60 (by decide) ?_
      refine j_iadd C0 dX7_move_64 ?_
      refine j_goto C0 69 dX7_move_65 (by decide) ?_
      exact j_iretE C0 rfl (by rw [vX7_move, if_neg q1, if_neg q4]) dX7_move_69 (fun H h => by rw [sX7_move, if_neg q1, if_neg q4]; exact h)
/-! ## isSound(I)Z -/
def vX7_isSound (F : Nat → Int32) (G : Nat → Nat → Int32) (a1 : Int32) : Int32 := (if (vX7_isMove F G (a1)) = 0 then (0 : Int32) else (1 : Int32))
def sX7_isSound (F : Nat → Int32) (G : Nat → Nat → Int32) (a1 : Int32) : (Nat → Int32) × (Nat → Nat → Int32) := (if (vX7_isMove F G (a1)) = 0 then ((hu F 0 (1 : Int32)), G) else ((hu F 0 (0 : Int32)), G))
set_option maxRecDepth 100000 in
set_option maxHeartbeats 4000000 in
theorem k_X7_isSound {l : Launch} (hl : l.stackTraces = false) {D : va_G} {Y : Nat → ClassId} {A : Nat → Prop} {E : State → Prop} (ad : Nat → Nat) (F : Nat → Int32) (G : Nat → Nat → Int32) (a1 : Int32) (hI : RI F G) : KM l yX7_isSound cX7_isSound 2 (some .boolean) D Y A E 2 43 0 0 [.ref (ad 0), .int (a1)] (OR D Y A ad F G) (some (.int (vX7_isSound F G a1))) (OR D Y A ad (sX7_isSound F G a1).1 (sX7_isSound F G a1).2) := by
  refine KM_of RX7 [(0, .ref (ad 0)), (1, .int (a1))] rfl (by decide) hl (Nat.le_of_ble_eq_true rfl) rfl (lok_of rfl rfl) ?_
  intro p e s m args below meth c C0
  obtain ⟨hn, hs, hm, hb, hw, hr⟩ := id hI
  refine j_aload_n C0 dX7_isSound_0 rfl ?_
  refine j_aload_n C0 dX7_isSound_1 rfl ?_
  refine j_iload_n C0 dX7_isSound_2 rfl ?_
  refine j_callVv C0 (k_X7_isMove hl ad F G (a1) ) mv_X7_isMove wm_X7_161 (r_recv C0) rfl rfl ⟨Nat.le_of_ble_eq_true rfl, Nat.le_of_ble_eq_true rfl⟩ (Nat.le_of_ble_eq_true rfl) ⟨Nat.le_refl _, Nat.le_refl _⟩ dX7_isSound_3 ?_
  refine j_if_eq C0 13 dX7_isSound_6 (by decide) (fun (q1 : (vX7_isMove F G (a1)) = 0) => ?_) (fun (q1 : ¬ ((vX7_isMove F G (a1)) = 0)) => ?_)
  ·
    refine j_iconst C0 (v := 1) dX7_isSound_13 (by decide) ?_
    refine j_callVv C0 (k_X7_holds hl ad F G ((1 : Int32)) ) mv_X7_holds wm_X7_85 (r_recv C0) rfl rfl ⟨Nat.le_of_ble_eq_true rfl, Nat.le_of_ble_eq_true rfl⟩ (Nat.le_of_ble_eq_true rfl) ⟨Nat.le_refl _, Nat.le_refl _⟩ dX7_isSound_14 ?_
    refine j_top (0 : Int32) (by unfold vX7_holds; decide +kernel) ?_
    show J p l e _ s m args below meth c A 2 _ (OV D Y A ad (1 : Int32) (F 1) (F 5) (F 18) (F 19) (F 20) (G 2) (G 3) (G 4) (G 6) (G 7) (G 8) (G 9) (G 10) (G 11) (G 12) (G 13) (G 14) (G 15) (G 16) (G 17) (G 21) (G 22) (G 23) (G 24) (G 25)) 0 0 17 [(0, .ref (ad 0)), (1, .int (a1))] [.int ((0 : Int32))]
    exact j_zretE C0 rfl (by rw [vX7_isSound, if_pos q1]) (by decide) dX7_isSound_17 (fun H h => by rw [sX7_isSound, if_pos q1]; exact h)
  ·
    refine j_iconst C0 (v := 0) dX7_isSound_9 (by decide) ?_
    refine j_goto C0 14 dX7_isSound_10 (by decide) ?_
    refine j_callVv C0 (k_X7_holds hl ad F G ((0 : Int32)) ) mv_X7_holds wm_X7_85 (r_recv C0) rfl rfl ⟨Nat.le_of_ble_eq_true rfl, Nat.le_of_ble_eq_true rfl⟩ (Nat.le_of_ble_eq_true rfl) ⟨Nat.le_refl _, Nat.le_refl _⟩ dX7_isSound_14 ?_
    refine j_top (1 : Int32) (by unfold vX7_holds; decide +kernel) ?_
    show J p l e _ s m args below meth c A 2 _ (OV D Y A ad (0 : Int32) (F 1) (F 5) (F 18) (F 19) (F 20) (G 2) (G 3) (G 4) (G 6) (G 7) (G 8) (G 9) (G 10) (G 11) (G 12) (G 13) (G 14) (G 15) (G 16) (G 17) (G 21) (G 22) (G 23) (G 24) (G 25)) 0 0 17 [(0, .ref (ad 0)), (1, .int (a1))] [.int ((1 : Int32))]
    exact j_zretE C0 rfl (by rw [vX7_isSound, if_neg q1]) (by decide) dX7_isSound_17 (fun H h => by rw [sX7_isSound, if_neg q1]; exact h)
/-! ## payClaim(I)I -/
def vX7_payClaim (F : Nat → Int32) (G : Nat → Nat → Int32) (a1 : Int32) : Int32 := (if (vX7_isShip F G (a1)) = 0 then (0 : Int32) else (if ((G 15) (a1).toNatClampNeg) = 0 then (0 : Int32) else ((80 : Int32) * ((G 6) (a1).toNatClampNeg))))
def sX7_payClaim (F : Nat → Int32) (G : Nat → Nat → Int32) (a1 : Int32) : (Nat → Int32) × (Nat → Nat → Int32) := (if (vX7_isShip F G (a1)) = 0 then ((hu F 0 (1 : Int32)), G) else (if ((G 15) (a1).toNatClampNeg) = 0 then ((hu F 0 (2 : Int32)), G) else ((hu (hu F 0 (0 : Int32)) 19 ((F 19) - ((80 : Int32) * ((G 6) (a1).toNatClampNeg)))), (hu (hu G 15 (upd (G 15) (a1).toNatClampNeg ((((G 15) (a1).toNatClampNeg) - (1 : Int32))))) 13 (upd (G 13) (a1).toNatClampNeg ((((G 13) (a1).toNatClampNeg) - ((80 : Int32) * ((G 6) (a1).toNatClampNeg)))))))))
set_option maxRecDepth 100000 in
set_option maxHeartbeats 4000000 in
theorem k_X7_payClaim {l : Launch} (hl : l.stackTraces = false) {D : va_G} {Y : Nat → ClassId} {A : Nat → Prop} {E : State → Prop} (ad : Nat → Nat) (F : Nat → Int32) (G : Nat → Nat → Int32) (a1 : Int32) (hI : RI F G) : KM l yX7_payClaim cX7_payClaim 3 (some .int) D Y A E 2 43 0 0 [.ref (ad 0), .int (a1)] (OR D Y A ad F G) (some (.int (vX7_payClaim F G a1))) (OR D Y A ad (sX7_payClaim F G a1).1 (sX7_payClaim F G a1).2) := by
  refine KM_of RX7 [(0, .ref (ad 0)), (1, .int (a1))] rfl (by decide) hl (Nat.le_of_ble_eq_true rfl) rfl (lok_of rfl rfl) ?_
  intro p e s m args below meth c C0
  obtain ⟨hn, hs, hm, hb, hw, hr⟩ := id hI
  refine j_aload_n C0 dX7_payClaim_0 rfl ?_
  refine j_iload_n C0 dX7_payClaim_1 rfl ?_
  refine j_callVv C0 (k_X7_isShip hl ad F G (a1) ) mv_X7_isShip wm_X7_99 (r_recv C0) rfl rfl ⟨Nat.le_of_ble_eq_true rfl, Nat.le_of_ble_eq_true rfl⟩ (Nat.le_of_ble_eq_true rfl) ⟨Nat.le_refl _, Nat.le_refl _⟩ dX7_payClaim_2 ?_
  refine j_istore_n C0 (L' := [(0, .ref (ad 0)), (1, .int (a1)), (2, .int ((vX7_isShip F G (a1))))]) dX7_payClaim_5 (by decide) rfl ?_
  refine j_aload_n C0 dX7_payClaim_6 rfl ?_
  refine j_iload_n C0 dX7_payClaim_7 rfl ?_
  refine j_if_ne C0 15 dX7_payClaim_8 (by decide) (fun (q1 : ¬ ((vX7_isShip F G (a1)) = 0)) => ?_) (fun (q1 : (vX7_isShip F G (a1)) = 0) => ?_)
  ·
    refine j_aload_n C0 dX7_payClaim_15 rfl ?_
    refine r_gf_15 C0 dX7_payClaim_16 ?_
    refine j_iload_n C0 dX7_payClaim_19 rfl ?_
    refine r_ld_15 C0 (v := ((G 15) (a1).toNatClampNeg)) (isShip_vp hs q1) dX7_payClaim_20 rfl ?_
    refine j_if_ne C0 28 dX7_payClaim_21 (by decide) (fun (q2 : ¬ (((G 15) (a1).toNatClampNeg) = 0)) => ?_) (fun (q2 : ((G 15) (a1).toNatClampNeg) = 0) => ?_)
    ·
      refine j_iconst C0 (v := 0) dX7_payClaim_28 (by decide) ?_
      refine j_callVv C0 (k_X7_holds hl ad F G ((0 : Int32)) ) mv_X7_holds wm_X7_85 (r_recv C0) rfl rfl ⟨Nat.le_of_ble_eq_true rfl, Nat.le_of_ble_eq_true rfl⟩ (Nat.le_of_ble_eq_true rfl) ⟨Nat.le_refl _, Nat.le_refl _⟩ dX7_payClaim_29 ?_
      refine j_top (1 : Int32) (by unfold vX7_holds; decide +kernel) ?_
      show J p l e _ s m args below meth c A 3 _ (OV D Y A ad (0 : Int32) (F 1) (F 5) (F 18) (F 19) (F 20) (G 2) (G 3) (G 4) (G 6) (G 7) (G 8) (G 9) (G 10) (G 11) (G 12) (G 13) (G 14) (G 15) (G 16) (G 17) (G 21) (G 22) (G 23) (G 24) (G 25)) 0 0 32 [(0, .ref (ad 0)), (1, .int (a1)), (2, .int ((vX7_isShip F G (a1))))] [.int ((1 : Int32))]
      refine j_if_ne C0 37 dX7_payClaim_32 (by decide) (fun _ => ?_) (fun z => absurd z (by decide))
      refine j_aload_n C0 dX7_payClaim_37 rfl ?_
      refine r_gf_15 C0 dX7_payClaim_38 ?_
      refine j_iload_n C0 dX7_payClaim_41 rfl ?_
      refine j_dup2 C0 dX7_payClaim_42 rfl rfl ?_
      refine r_ld_15 C0 (v := ((G 15) (a1).toNatClampNeg)) (isShip_vp hs q1) dX7_payClaim_43 rfl ?_
      refine j_iconst C0 (v := 1) dX7_payClaim_44 (by decide) ?_
      refine j_isub C0 dX7_payClaim_45 ?_
      refine r_st_15 C0 (isShip_vp hs q1) dX7_payClaim_46 ?_
      refine j_aload_n C0 dX7_payClaim_47 rfl ?_
      refine r_gf_13 C0 dX7_payClaim_48 ?_
      refine j_iload_n C0 dX7_payClaim_51 rfl ?_
      refine j_dup2 C0 dX7_payClaim_52 rfl rfl ?_
      refine r_ld_13 C0 (v := ((G 13) (a1).toNatClampNeg)) (isShip_vp hs q1) dX7_payClaim_53 rfl ?_
      refine j_bipush C0 (v := 80) dX7_payClaim_54 (by decide) ?_
      refine j_aload_n C0 dX7_payClaim_56 rfl ?_
      refine r_gf_6 C0 dX7_payClaim_57 ?_
      refine j_iload_n C0 dX7_payClaim_60 rfl ?_
      refine r_ld_6 C0 (v := ((G 6) (a1).toNatClampNeg)) (isShip_vp hs q1) dX7_payClaim_61 rfl ?_
      refine j_imul C0 dX7_payClaim_62 ?_
      refine j_isub C0 dX7_payClaim_63 ?_
      refine r_st_13 C0 (isShip_vp hs q1) dX7_payClaim_64 ?_
      refine j_aload_n C0 dX7_payClaim_65 rfl ?_
      refine j_dup C0 dX7_payClaim_66 rfl ?_
      refine r_gf_19 C0 (v := (F 19)) dX7_payClaim_67 rfl ?_
      refine j_bipush C0 (v := 80) dX7_payClaim_70 (by decide) ?_
      refine j_aload_n C0 dX7_payClaim_72 rfl ?_
      refine r_gf_6 C0 dX7_payClaim_73 ?_
      refine j_iload_n C0 dX7_payClaim_76 rfl ?_
      refine r_ld_6 C0 (v := ((G 6) (a1).toNatClampNeg)) (isShip_vp hs q1) dX7_payClaim_77 rfl ?_
      refine j_imul C0 dX7_payClaim_78 ?_
      refine j_isub C0 dX7_payClaim_79 ?_
      refine r_pf_19 C0 dX7_payClaim_80 ?_
      refine j_bipush C0 (v := 80) dX7_payClaim_83 (by decide) ?_
      refine j_aload_n C0 dX7_payClaim_85 rfl ?_
      refine r_gf_6 C0 dX7_payClaim_86 ?_
      refine j_iload_n C0 dX7_payClaim_89 rfl ?_
      refine r_ld_6 C0 (v := ((G 6) (a1).toNatClampNeg)) (isShip_vp hs q1) dX7_payClaim_90 rfl ?_
      refine j_imul C0 dX7_payClaim_91 ?_
      exact j_iretE C0 rfl (by rw [vX7_payClaim, if_neg q1, if_neg q2]) dX7_payClaim_92 (fun H h => by rw [sX7_payClaim, if_neg q1, if_neg q2]; exact h)
    ·
      refine j_iconst C0 (v := 2) dX7_payClaim_24 (by decide) ?_
      refine j_goto C0 29 dX7_payClaim_25 (by decide) ?_
      refine j_callVv C0 (k_X7_holds hl ad F G ((2 : Int32)) ) mv_X7_holds wm_X7_85 (r_recv C0) rfl rfl ⟨Nat.le_of_ble_eq_true rfl, Nat.le_of_ble_eq_true rfl⟩ (Nat.le_of_ble_eq_true rfl) ⟨Nat.le_refl _, Nat.le_refl _⟩ dX7_payClaim_29 ?_
      refine j_top (0 : Int32) (by unfold vX7_holds; decide +kernel) ?_
      show J p l e _ s m args below meth c A 3 _ (OV D Y A ad (2 : Int32) (F 1) (F 5) (F 18) (F 19) (F 20) (G 2) (G 3) (G 4) (G 6) (G 7) (G 8) (G 9) (G 10) (G 11) (G 12) (G 13) (G 14) (G 15) (G 16) (G 17) (G 21) (G 22) (G 23) (G 24) (G 25)) 0 0 32 [(0, .ref (ad 0)), (1, .int (a1)), (2, .int ((vX7_isShip F G (a1))))] [.int ((0 : Int32))]
      refine j_if_ne C0 37 dX7_payClaim_32 (by decide) (fun z => absurd (by decide) z) (fun _ => ?_)
      refine j_iconst C0 (v := 0) dX7_payClaim_35 (by decide) ?_
      exact j_iretE C0 rfl (by rw [vX7_payClaim, if_neg q1, if_pos q2]) dX7_payClaim_36 (fun H h => by rw [sX7_payClaim, if_neg q1, if_pos q2]; exact h)
  ·
    refine j_iconst C0 (v := 1) dX7_payClaim_11 (by decide) ?_
    refine j_goto C0 29 dX7_payClaim_12 (by decide) ?_
    refine j_callVv C0 (k_X7_holds hl ad F G ((1 : Int32)) ) mv_X7_holds wm_X7_85 (r_recv C0) rfl rfl ⟨Nat.le_of_ble_eq_true rfl, Nat.le_of_ble_eq_true rfl⟩ (Nat.le_of_ble_eq_true rfl) ⟨Nat.le_refl _, Nat.le_refl _⟩ dX7_payClaim_29 ?_
    refine j_top (0 : Int32) (by unfold vX7_holds; decide +kernel) ?_
    show J p l e _ s m args below meth c A 3 _ (OV D Y A ad (1 : Int32) (F 1) (F 5) (F 18) (F 19) (F 20) (G 2) (G 3) (G 4) (G 6) (G 7) (G 8) (G 9) (G 10) (G 11) (G 12) (G 13) (G 14) (G 15) (G 16) (G 17) (G 21) (G 22) (G 23) (G 24) (G 25)) 0 0 32 [(0, .ref (ad 0)), (1, .int (a1)), (2, .int ((vX7_isShip F G (a1))))] [.int ((0 : Int32))]
    refine j_if_ne C0 37 dX7_payClaim_32 (by decide) (fun z => absurd (by decide) z) (fun _ => ?_)
    refine j_iconst C0 (v := 0) dX7_payClaim_35 (by decide) ?_
    exact j_iretE C0 rfl (by rw [vX7_payClaim, if_pos q1]) dX7_payClaim_36 (fun H h => by rw [sX7_payClaim, if_pos q1]; exact h)
def PS (F : Nat → Int32) (n : Nat) (v : (Nat → Int32) × (Nat → Nat → Int32)) : Prop := RI v.1 v.2 ∧ v.1 1 = F 1 + nI n ∧ v.1 5 = F 5
/-! ## pass(I)I -/
def bX7_pass_47 (F : Nat → Int32) (G : Nat → Nat → Int32) (a1 : Int32) (j47 : Nat) (v47 : (Nat → Int32) × (Nat → Nat → Int32)) : (Nat → Int32) × (Nat → Nat → Int32) := match v47 with | (v47_0, v47_1) => ((sX7_passes v47_0 v47_1).1, (sX7_passes v47_0 v47_1).2)
def vX7_pass (F : Nat → Int32) (G : Nat → Nat → Int32) (a1 : Int32) : Int32 := (if (vX7_isIn (a1) ((1 : Int32)) ((100 : Int32))) = 0 then (0 : Int32) else (if ((F 1) + a1) ≤ (3000 : Int32) then (((nf (bX7_pass_47 F G a1) ((hu F 0 (0 : Int32)), G) ((a1).toNatClampNeg)).1 20) - (F 20)) else (0 : Int32)))
def sX7_pass (F : Nat → Int32) (G : Nat → Nat → Int32) (a1 : Int32) : (Nat → Int32) × (Nat → Nat → Int32) := (if (vX7_isIn (a1) ((1 : Int32)) ((100 : Int32))) = 0 then ((hu F 0 (1 : Int32)), G) else (if ((F 1) + a1) ≤ (3000 : Int32) then ((nf (bX7_pass_47 F G a1) ((hu F 0 (0 : Int32)), G) ((a1).toNatClampNeg)).1, (nf (bX7_pass_47 F G a1) ((hu F 0 (0 : Int32)), G) ((a1).toNatClampNeg)).2) else ((hu F 0 (2 : Int32)), G)))
theorem pass_inv (F : Nat → Int32) (G : Nat → Nat → Int32) (a1 : Int32) {n u : Nat} (ea : F 1 = nI n) (hle : n + u ≤ 3000) (init : (Nat → Int32) × (Nat → Nat → Int32)) (h0 : PS F 0 init) : ∀ N, N ≤ u → PS F N (nf (bX7_pass_47 F G a1) init N) := by
  intro N
  induction N with
  | zero => intro _; exact h0
  | succ k ih =>
    intro hk
    have ih := ih (by omega)
    rw [nf]
    generalize nf (bX7_pass_47 F G a1) init k = v at ih ⊢
    obtain ⟨v0, v1⟩ := v
    obtain ⟨h1, h2, h3⟩ := ih
    dsimp only at h1 h2 h3
    have hc : ct (v0 1 + (1 : Int32)) 3000 := ⟨n + k + 1, by omega, by rw [h2, ea, nI_add, nI_1]⟩
    obtain ⟨k1, k2, k3⟩ := passes_RI h1 hc
    rw [bX7_pass_47]
    exact ⟨k1, by rw [k2, h2, Int32.add_assoc, nI_1], k3.trans h3⟩
set_option maxRecDepth 100000 in
set_option maxHeartbeats 4000000 in
theorem k_X7_pass {l : Launch} (hl : l.stackTraces = false) {D : va_G} {Y : Nat → ClassId} {A : Nat → Prop} {E : State → Prop} (ad : Nat → Nat) (F : Nat → Int32) (G : Nat → Nat → Int32) (a1 : Int32) (hI : RI F G) : KM l yX7_pass cX7_pass 4 (some .int) D Y A E 5 118 0 0 [.ref (ad 0), .int (a1)] (OR D Y A ad F G) (some (.int (vX7_pass F G a1))) (OR D Y A ad (sX7_pass F G a1).1 (sX7_pass F G a1).2) := by
  refine KM_of RX7 [(0, .ref (ad 0)), (1, .int (a1))] rfl (by decide) hl (Nat.le_of_ble_eq_true rfl) rfl (lok_of rfl rfl) ?_
  intro p e s m args below meth c C0
  obtain ⟨hn, hs, hm, hb, hw, hr⟩ := id hI
  refine j_aload_n C0 dX7_pass_0 rfl ?_
  refine j_iload_n C0 dX7_pass_1 rfl ?_
  refine j_iconst C0 (v := 1) dX7_pass_2 (by decide) ?_
  refine j_bipush C0 (v := 100) dX7_pass_3 (by decide) ?_
  refine j_callSv C0 (k_X7_isIn hl (a1) ((1 : Int32)) ((100 : Int32)) ) ms_X7_isIn wm_X7_78 rfl rfl ⟨Nat.le_of_ble_eq_true rfl, Nat.le_of_ble_eq_true rfl⟩ (Nat.le_of_ble_eq_true rfl) ⟨Nat.le_refl _, Nat.le_refl _⟩ dX7_pass_5 ?_
  refine j_if_ne C0 15 dX7_pass_8 (by decide) (fun (q1 : ¬ ((vX7_isIn (a1) ((1 : Int32)) ((100 : Int32))) = 0)) => ?_) (fun (q1 : (vX7_isIn (a1) ((1 : Int32)) ((100 : Int32))) = 0) => ?_)
  ·
    refine j_aload_n C0 dX7_pass_15 rfl ?_
    refine r_gf_1 C0 (v := (F 1)) dX7_pass_16 rfl ?_
    refine j_iload_n C0 dX7_pass_19 rfl ?_
    refine j_iadd C0 dX7_pass_20 ?_
    refine j_sipush C0 (v := 3000) dX7_pass_21 (by decide) ?_
    refine j_icmp_le C0 31 dX7_pass_24 (by decide) (fun (q2 : ((F 1) + a1) ≤ (3000 : Int32)) => ?_) (fun (q2 : ¬ (((F 1) + a1) ≤ (3000 : Int32))) => ?_)
    ·
      refine j_iconst C0 (v := 0) dX7_pass_31 (by decide) ?_
      refine j_callVv C0 (k_X7_holds hl ad F G ((0 : Int32)) ) mv_X7_holds wm_X7_85 (r_recv C0) rfl rfl ⟨Nat.le_of_ble_eq_true rfl, Nat.le_of_ble_eq_true rfl⟩ (Nat.le_of_ble_eq_true rfl) ⟨Nat.le_refl _, Nat.le_refl _⟩ dX7_pass_32 ?_
      refine j_top (1 : Int32) (by unfold vX7_holds; decide +kernel) ?_
      show J p l e _ s m args below meth c A 4 _ (OV D Y A ad (0 : Int32) (F 1) (F 5) (F 18) (F 19) (F 20) (G 2) (G 3) (G 4) (G 6) (G 7) (G 8) (G 9) (G 10) (G 11) (G 12) (G 13) (G 14) (G 15) (G 16) (G 17) (G 21) (G 22) (G 23) (G 24) (G 25)) 0 0 35 [(0, .ref (ad 0)), (1, .int (a1))] [.int ((1 : Int32))]
      refine j_if_ne C0 40 dX7_pass_35 (by decide) (fun _ => ?_) (fun z => absurd z (by decide))
      refine j_aload_n C0 dX7_pass_40 rfl ?_
      refine r_gf_20 C0 (v := (F 20)) dX7_pass_41 rfl ?_
      refine j_istore_n C0 (L' := [(0, .ref (ad 0)), (1, .int (a1)), (2, .int ((F 20)))]) dX7_pass_44 (by decide) rfl ?_
      refine j_iconst C0 (v := 0) dX7_pass_45 (by decide) ?_
      refine j_istore_n C0 (L' := [(0, .ref (ad 0)), (1, .int (a1)), (2, .int ((F 20))), (3, .int ((0 : Int32)))]) dX7_pass_46 (by decide) rfl ?_
      obtain ⟨n1, u, ea, eb, hx1, hx2, hle⟩ := (pass_facts hn q1 q2)
      have hN : a1.toNatClampNeg = u := by rw [eb, nI_clamp (by omega)]
      refine hb_lp (P := fun (j : Nat) (v : (Nat → Int32) × (Nat → Nat → Int32)) => J p l e _ s m args below meth c A 4 _ (OV D Y A ad (v.1 0) (v.1 1) (v.1 5) (v.1 18) (v.1 19) (v.1 20) (v.2 2) (v.2 3) (v.2 4) (v.2 6) (v.2 7) (v.2 8) (v.2 9) (v.2 10) (v.2 11) (v.2 12) (v.2 13) (v.2 14) (v.2 15) (v.2 16) (v.2 17) (v.2 21) (v.2 22) (v.2 23) (v.2 24) (v.2 25)) 0 0 47 [(0, .ref (ad 0)), (1, .int (a1)), (2, .int ((F 20))), (3, .int (nI j))] []) (bX7_pass_47 F G a1) ((hu F 0 (0 : Int32)), G) ((a1).toNatClampNeg) ?_ ?_
      ·
        intro j47 hj47 K47
        have hv47 := pass_inv F G a1 ea hle ((hu F 0 (0 : Int32)), G) ⟨⟨hn, hs, hm, hb, hw, hr⟩, (k_zero _).symm, rfl⟩ j47
        generalize nf (bX7_pass_47 F G a1) ((hu F 0 (0 : Int32)), G) j47 = v47 at K47 hv47 ⊢
        obtain ⟨v47_0, v47_1⟩ := v47
        try dsimp only at hv47
        show J p l e _ s m args below meth c A 4 _ (OV D Y A ad (v47_0 0) (v47_0 1) (v47_0 5) (v47_0 18) (v47_0 19) (v47_0 20) (v47_1 2) (v47_1 3) (v47_1 4) (v47_1 6) (v47_1 7) (v47_1 8) (v47_1 9) (v47_1 10) (v47_1 11) (v47_1 12) (v47_1 13) (v47_1 14) (v47_1 15) (v47_1 16) (v47_1 17) (v47_1 21) (v47_1 22) (v47_1 23) (v47_1 24) (v47_1 25)) 0 0 47 [(0, .ref (ad 0)), (1, .int (a1)), (2, .int ((F 20))), (3, .int (nI j47))] []
        replace K47 : J p l e _ s m args below meth c A 4 _ (OV D Y A ad ((bX7_pass_47 F G a1 j47 (v47_0, v47_1)).1 0) ((bX7_pass_47 F G a1 j47 (v47_0, v47_1)).1 1) ((bX7_pass_47 F G a1 j47 (v47_0, v47_1)).1 5) ((bX7_pass_47 F G a1 j47 (v47_0, v47_1)).1 18) ((bX7_pass_47 F G a1 j47 (v47_0, v47_1)).1 19) ((bX7_pass_47 F G a1 j47 (v47_0, v47_1)).1 20) ((bX7_pass_47 F G a1 j47 (v47_0, v47_1)).2 2) ((bX7_pass_47 F G a1 j47 (v47_0, v47_1)).2 3) ((bX7_pass_47 F G a1 j47 (v47_0, v47_1)).2 4) ((bX7_pass_47 F G a1 j47 (v47_0, v47_1)).2 6) ((bX7_pass_47 F G a1 j47 (v47_0, v47_1)).2 7) ((bX7_pass_47 F G a1 j47 (v47_0, v47_1)).2 8) ((bX7_pass_47 F G a1 j47 (v47_0, v47_1)).2 9) ((bX7_pass_47 F G a1 j47 (v47_0, v47_1)).2 10) ((bX7_pass_47 F G a1 j47 (v47_0, v47_1)).2 11) ((bX7_pass_47 F G a1 j47 (v47_0, v47_1)).2 12) ((bX7_pass_47 F G a1 j47 (v47_0, v47_1)).2 13) ((bX7_pass_47 F G a1 j47 (v47_0, v47_1)).2 14) ((bX7_pass_47 F G a1 j47 (v47_0, v47_1)).2 15) ((bX7_pass_47 F G a1 j47 (v47_0, v47_1)).2 16) ((bX7_pass_47 F G a1 j47 (v47_0, v47_1)).2 17) ((bX7_pass_47 F G a1 j47 (v47_0, v47_1)).2 21) ((bX7_pass_47 F G a1 j47 (v47_0, v47_1)).2 22) ((bX7_pass_47 F G a1 j47 (v47_0, v47_1)).2 23) ((bX7_pass_47 F G a1 j47 (v47_0, v47_1)).2 24) ((bX7_pass_47 F G a1 j47 (v47_0, v47_1)).2 25)) 0 0 47 [(0, .ref (ad 0)), (1, .int (a1)), (2, .int ((F 20))), (3, .int (nI (j47 + 1)))] [] := K47
        have hA47 : RI v47_0 v47_1 := (hv47 (by omega)).1; have hB47 : v47_0 1 = F 1 + nI j47 := (hv47 (by omega)).2.1; have hC47 : ct (v47_0 1 + (1 : Int32)) 3000 := ⟨n1 + j47 + 1, by omega, by rw [hB47, ea, nI_add, nI_1]⟩
        refine j_iload_n C0 dX7_pass_47 rfl ?_
        refine j_iload_n C0 dX7_pass_48 rfl ?_
        refine j_icmp_ge C0 62 dX7_pass_49 (by decide) (fun z => absurd z (cl_lt rfl hj47)) (fun _ => ?_)
        refine j_aload_n C0 dX7_pass_52 rfl ?_
        refine j_callVn C0 (k_X7_passes hl ad v47_0 v47_1  hA47 hC47) mv_X7_passes wm_X7_158 (r_recv C0) rfl rfl ⟨Nat.le_of_ble_eq_true rfl, Nat.le_of_ble_eq_true rfl⟩ (Nat.le_of_ble_eq_true rfl) ⟨Nat.le_refl _, Nat.le_refl _⟩ dX7_pass_53 ?_
        show J p l e _ s m args below meth c A 4 _ (OV D Y A ad ((sX7_passes v47_0 v47_1).1 0) ((sX7_passes v47_0 v47_1).1 1) ((sX7_passes v47_0 v47_1).1 5) ((sX7_passes v47_0 v47_1).1 18) ((sX7_passes v47_0 v47_1).1 19) ((sX7_passes v47_0 v47_1).1 20) ((sX7_passes v47_0 v47_1).2 2) ((sX7_passes v47_0 v47_1).2 3) ((sX7_passes v47_0 v47_1).2 4) ((sX7_passes v47_0 v47_1).2 6) ((sX7_passes v47_0 v47_1).2 7) ((sX7_passes v47_0 v47_1).2 8) ((sX7_passes v47_0 v47_1).2 9) ((sX7_passes v47_0 v47_1).2 10) ((sX7_passes v47_0 v47_1).2 11) ((sX7_passes v47_0 v47_1).2 12) ((sX7_passes v47_0 v47_1).2 13) ((sX7_passes v47_0 v47_1).2 14) ((sX7_passes v47_0 v47_1).2 15) ((sX7_passes v47_0 v47_1).2 16) ((sX7_passes v47_0 v47_1).2 17) ((sX7_passes v47_0 v47_1).2 21) ((sX7_passes v47_0 v47_1).2 22) ((sX7_passes v47_0 v47_1).2 23) ((sX7_passes v47_0 v47_1).2 24) ((sX7_passes v47_0 v47_1).2 25)) 0 0 56 [(0, .ref (ad 0)), (1, .int (a1)), (2, .int ((F 20))), (3, .int (nI j47))] []
        refine j_iinc C0 (v := nI (j47 + 1)) (L' := [(0, .ref (ad 0)), (1, .int (a1)), (2, .int ((F 20))), (3, .int (nI (j47 + 1)))]) dX7_pass_56 rfl (nI_inc j47) (by decide) rfl ?_
        refine j_goto C0 47 dX7_pass_59 (by decide) ?_
        exact K47
      ·
        show J p l e _ s m args below meth c A 4 _ (OV D Y A ad ((nf (bX7_pass_47 F G a1) ((hu F 0 (0 : Int32)), G) ((a1).toNatClampNeg)).1 0) ((nf (bX7_pass_47 F G a1) ((hu F 0 (0 : Int32)), G) ((a1).toNatClampNeg)).1 1) ((nf (bX7_pass_47 F G a1) ((hu F 0 (0 : Int32)), G) ((a1).toNatClampNeg)).1 5) ((nf (bX7_pass_47 F G a1) ((hu F 0 (0 : Int32)), G) ((a1).toNatClampNeg)).1 18) ((nf (bX7_pass_47 F G a1) ((hu F 0 (0 : Int32)), G) ((a1).toNatClampNeg)).1 19) ((nf (bX7_pass_47 F G a1) ((hu F 0 (0 : Int32)), G) ((a1).toNatClampNeg)).1 20) ((nf (bX7_pass_47 F G a1) ((hu F 0 (0 : Int32)), G) ((a1).toNatClampNeg)).2 2) ((nf (bX7_pass_47 F G a1) ((hu F 0 (0 : Int32)), G) ((a1).toNatClampNeg)).2 3) ((nf (bX7_pass_47 F G a1) ((hu F 0 (0 : Int32)), G) ((a1).toNatClampNeg)).2 4) ((nf (bX7_pass_47 F G a1) ((hu F 0 (0 : Int32)), G) ((a1).toNatClampNeg)).2 6) ((nf (bX7_pass_47 F G a1) ((hu F 0 (0 : Int32)), G) ((a1).toNatClampNeg)).2 7) ((nf (bX7_pass_47 F G a1) ((hu F 0 (0 : Int32)), G) ((a1).toNatClampNeg)).2 8) ((nf (bX7_pass_47 F G a1) ((hu F 0 (0 : Int32)), G) ((a1).toNatClampNeg)).2 9) ((nf (bX7_pass_47 F G a1) ((hu F 0 (0 : Int32)), G) ((a1).toNatClampNeg)).2 10) ((nf (bX7_pass_47 F G a1) ((hu F 0 (0 : Int32)), G) ((a1).toNatClampNeg)).2 11) ((nf (bX7_pass_47 F G a1) ((hu F 0 (0 : Int32)), G) ((a1).toNatClampNeg)).2 12) ((nf (bX7_pass_47 F G a1) ((hu F 0 (0 : Int32)), G) ((a1).toNatClampNeg)).2 13) ((nf (bX7_pass_47 F G a1) ((hu F 0 (0 : Int32)), G) ((a1).toNatClampNeg)).2 14) ((nf (bX7_pass_47 F G a1) ((hu F 0 (0 : Int32)), G) ((a1).toNatClampNeg)).2 15) ((nf (bX7_pass_47 F G a1) ((hu F 0 (0 : Int32)), G) ((a1).toNatClampNeg)).2 16) ((nf (bX7_pass_47 F G a1) ((hu F 0 (0 : Int32)), G) ((a1).toNatClampNeg)).2 17) ((nf (bX7_pass_47 F G a1) ((hu F 0 (0 : Int32)), G) ((a1).toNatClampNeg)).2 21) ((nf (bX7_pass_47 F G a1) ((hu F 0 (0 : Int32)), G) ((a1).toNatClampNeg)).2 22) ((nf (bX7_pass_47 F G a1) ((hu F 0 (0 : Int32)), G) ((a1).toNatClampNeg)).2 23) ((nf (bX7_pass_47 F G a1) ((hu F 0 (0 : Int32)), G) ((a1).toNatClampNeg)).2 24) ((nf (bX7_pass_47 F G a1) ((hu F 0 (0 : Int32)), G) ((a1).toNatClampNeg)).2 25)) 0 0 47 [(0, .ref (ad 0)), (1, .int (a1)), (2, .int ((F 20))), (3, .int (nI (((a1).toNatClampNeg))))] []
        refine j_iload_n C0 dX7_pass_47 rfl ?_
        refine j_iload_n C0 dX7_pass_48 rfl ?_
        refine j_icmp_ge C0 62 dX7_pass_49 (by decide) (fun _ => ?_) (fun z => absurd (cl_le rfl) z)
        refine j_aload_n C0 dX7_pass_62 rfl ?_
        refine r_gf_20 C0 (v := ((nf (bX7_pass_47 F G a1) ((hu F 0 (0 : Int32)), G) ((a1).toNatClampNeg)).1 20)) dX7_pass_63 rfl ?_
        refine j_iload_n C0 dX7_pass_66 rfl ?_
        refine j_isub C0 dX7_pass_67 ?_
        exact j_iretE C0 rfl (by rw [vX7_pass, if_neg q1, if_pos q2]) dX7_pass_68 (fun H h => by rw [sX7_pass, if_neg q1, if_pos q2]; exact h)
    ·
      refine j_iconst C0 (v := 2) dX7_pass_27 (by decide) ?_
      refine j_goto C0 32 dX7_pass_28 (by decide) ?_
      refine j_callVv C0 (k_X7_holds hl ad F G ((2 : Int32)) ) mv_X7_holds wm_X7_85 (r_recv C0) rfl rfl ⟨Nat.le_of_ble_eq_true rfl, Nat.le_of_ble_eq_true rfl⟩ (Nat.le_of_ble_eq_true rfl) ⟨Nat.le_refl _, Nat.le_refl _⟩ dX7_pass_32 ?_
      refine j_top (0 : Int32) (by unfold vX7_holds; decide +kernel) ?_
      show J p l e _ s m args below meth c A 4 _ (OV D Y A ad (2 : Int32) (F 1) (F 5) (F 18) (F 19) (F 20) (G 2) (G 3) (G 4) (G 6) (G 7) (G 8) (G 9) (G 10) (G 11) (G 12) (G 13) (G 14) (G 15) (G 16) (G 17) (G 21) (G 22) (G 23) (G 24) (G 25)) 0 0 35 [(0, .ref (ad 0)), (1, .int (a1))] [.int ((0 : Int32))]
      refine j_if_ne C0 40 dX7_pass_35 (by decide) (fun z => absurd (by decide) z) (fun _ => ?_)
      refine j_iconst C0 (v := 0) dX7_pass_38 (by decide) ?_
      exact j_iretE C0 rfl (by rw [vX7_pass, if_neg q1, if_neg q2]) dX7_pass_39 (fun H h => by rw [sX7_pass, if_neg q1, if_neg q2]; exact h)
  ·
    refine j_iconst C0 (v := 1) dX7_pass_11 (by decide) ?_
    refine j_goto C0 32 dX7_pass_12 (by decide) ?_
    refine j_callVv C0 (k_X7_holds hl ad F G ((1 : Int32)) ) mv_X7_holds wm_X7_85 (r_recv C0) rfl rfl ⟨Nat.le_of_ble_eq_true rfl, Nat.le_of_ble_eq_true rfl⟩ (Nat.le_of_ble_eq_true rfl) ⟨Nat.le_refl _, Nat.le_refl _⟩ dX7_pass_32 ?_
    refine j_top (0 : Int32) (by unfold vX7_holds; decide +kernel) ?_
    show J p l e _ s m args below meth c A 4 _ (OV D Y A ad (1 : Int32) (F 1) (F 5) (F 18) (F 19) (F 20) (G 2) (G 3) (G 4) (G 6) (G 7) (G 8) (G 9) (G 10) (G 11) (G 12) (G 13) (G 14) (G 15) (G 16) (G 17) (G 21) (G 22) (G 23) (G 24) (G 25)) 0 0 35 [(0, .ref (ad 0)), (1, .int (a1))] [.int ((0 : Int32))]
    refine j_if_ne C0 40 dX7_pass_35 (by decide) (fun z => absurd (by decide) z) (fun _ => ?_)
    refine j_iconst C0 (v := 0) dX7_pass_38 (by decide) ?_
    exact j_iretE C0 rfl (by rw [vX7_pass, if_pos q1]) dX7_pass_39 (fun H h => by rw [sX7_pass, if_pos q1]; exact h)
