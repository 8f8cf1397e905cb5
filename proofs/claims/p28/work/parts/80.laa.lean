section
def fRot (g : Nat → Int32) (j : Nat) (w : Int32) : Int32 := w ||| ((1 : Int32) <<< (g j &&& 31))
theorem z_rot63 {g : Nat → Int32} (h : zPm g) : nf (fRot g) (0 : Int32) 6 = 63 := by
  have hb : ∀ j, j < 6 → ∃ p, p < 6 ∧ g j = nI p := fun j hj => by
    obtain ⟨p, h1, h2⟩ := vp_in_of (h.1 j hj) (by decide)
    exact ⟨p, h1, h2⟩
  have key := z_nfI (f := fRot g) (a := (0 : Int32)) (fun n v => ∃ w, w < 64 ∧ v = nI w ∧ ∀ i, i < 6 → (Nat.testBit w i = true ↔ ∃ j, j < n ∧ g j = nI i)) 6 ⟨0, by decide, rfl, fun i hi => ⟨fun z => absurd z (by simp), fun ⟨j, hj, _⟩ => absurd hj (Nat.not_lt_zero _)⟩⟩ (by
    rintro j hj v ⟨w, hw, e, hbit⟩
    obtain ⟨p, hp, ep⟩ := hb j hj
    obtain ⟨o1, o2⟩ := z_orb w hw p hp
    refine ⟨w ||| 2 ^ p, o2, by rw [fRot, e, ep, o1], fun i hi => ?_⟩
    rw [z_ort w hw p hp i hi, Bool.or_eq_true, hbit i hi, decide_eq_true_iff]
    constructor
    · rintro (⟨k, hk, e2⟩ | e2)
      · exact ⟨k, by omega, e2⟩
      · exact ⟨j, by omega, by rw [ep, e2]⟩
    · rintro ⟨k, hk, e2⟩
      by_cases c : k = j
      · right
        rw [c, ep] at e2
        exact ((nI_eq (by omega) (by omega)).mp e2).symm
      · exact Or.inl ⟨k, by omega, e2⟩)
  obtain ⟨w, hw, e, hbit⟩ := key
  have e63 : w = 63 := z_ext w hw 63 (by decide) (fun i hi => by
    have h1 : Nat.testBit w i = true := (hbit i hi).mpr (h.2.2 i hi)
    rw [h1]
    have : ∀ i, i < 6 → true = Nat.testBit 63 i := by decide
    exact this i hi)
  rw [e, e63]
  rfl
set_option maxRecDepth 100000 in
set_option maxHeartbeats 4000000 in
theorem k_L_isRota {l : Launch} (hsl : l.stackTraces = false) {D : va_G} {Y : Nat → ClassId} {z tE mi ac ap : Nat} {ad : Nat → Nat} (F : Nat → Int32) (G : Nat → Nat → Int32) (N : Nat → Nat) (Q : Nat → Nat → Nat) (cf pf : Nat → Int32) (hpm : zPm (G 3)) : KM l yL_isRota cL_isRota 3 (some .boolean) D Y (fun q => z ≤ q) (EC (fun q => z ≤ q) tE mi) 8 200 12 72 [.ref (ad 0)] (LV D Y z tE ac ap ad F G N Q cf pf) (some (.int 1)) (LV D Y z tE ac ap ad F G N Q cf pf) := by
  refine KM_of RL [(0, .ref (ad 0))] rfl (by decide) hsl (Nat.le_of_ble_eq_true rfl) rfl (lok_of rfl rfl) ?_
  intro p e s m args below meth c C0
  refine j_iconst C0 (v := 0) dL_isRota_0 (by decide) ?_
  refine j_istore_n C0 (L' := [(0, .ref (ad 0)), (1, .int ((0 : Int32)))]) dL_isRota_1 (by decide) rfl ?_
  refine j_iconst C0 (v := 0) dL_isRota_2 (by decide) ?_
  refine j_istore_n C0 (L' := [(0, .ref (ad 0)), (1, .int ((0 : Int32))), (2, .int ((0 : Int32)))]) dL_isRota_3 (by decide) rfl ?_
  refine j_widen (k := 2 * 0) (n := 12 * 0) (by omega) (by omega) ?_
  refine j_castL (L' := [(0, .ref (ad 0)), (1, .int (nf (fRot (G 3)) (0 : Int32) 0)), (2, .int (nI 0))]) (rfl) ?_
  refine l_loop (P := fun (jj : Nat) => J p l e _ s m args below meth c (fun q => z ≤ q) 3 _ (LV D Y z tE ac ap ad F G N Q cf pf) (2 * jj) (12 * jj) 4 [(0, .ref (ad 0)), (1, .int (nf (fRot (G 3)) (0 : Int32) jj)), (2, .int (nI jj))] []) 6 ?_ (fun jj hjj K4 => ?_)
  rotate_left
  ·
    show J p l e _ s m args below meth c (fun q => z ≤ q) 3 _ (LV D Y z tE ac ap ad F G N Q cf pf) (2 * jj) (12 * jj) 4 [(0, .ref (ad 0)), (1, .int (nf (fRot (G 3)) (0 : Int32) jj)), (2, .int (nI jj))] []
    replace K4 : J p l e _ s m args below meth c (fun q => z ≤ q) 3 _ (LV D Y z tE ac ap ad F G N Q cf pf) (2 * (jj + 1)) (12 * (jj + 1)) 4 [(0, .ref (ad 0)), (1, .int (nf (fRot (G 3)) (0 : Int32) (jj + 1))), (2, .int (nI (jj + 1)))] [] := K4
    refine j_iload_n C0 dL_isRota_4 rfl ?_
    refine j_bipush C0 (v := 6) dL_isRota_5 (by decide) ?_
    refine j_icmp_ge C0 26 dL_isRota_7 (by decide) (fun z9 => absurd z9 (nI_ge (by omega) (by decide))) (fun _ => ?_)
    refine j_iload_n C0 dL_isRota_10 rfl ?_
    refine j_iconst C0 (v := 1) dL_isRota_11 (by decide) ?_
    refine j_aload_n C0 dL_isRota_12 rfl ?_
    refine j_iload_n C0 dL_isRota_13 rfl ?_
    refine j_callVv C0 (lv_kx (z := z) (ac := ac) (ap := ap) (cf := cf) (pf := pf) (zv_rota (F := F) (G := G) (N := N) (Q := Q) (k := jj) (by omega)).1 (zv_rota (F := F) (G := G) (N := N) (Q := Q) (k := jj) (by omega)).2 (k_X6_rota hsl (A := AC z ac ap) (E := EC (AC z ac ap) tE mi) (fun U h => h) ad F G N Q (nI jj) )) mv_X6_rota wm_L_54 (lv_recv C0) rfl rfl ⟨Nat.le_of_ble_eq_true rfl, Nat.le_of_ble_eq_true rfl⟩ (Nat.le_of_ble_eq_true rfl) ⟨by show _ ≤ (12 : Nat); omega, by show _ ≤ (72 : Nat); omega⟩ dL_isRota_14 ?_
    refine j_ishl C0 dL_isRota_17 ?_
    refine j_ior C0 dL_isRota_18 ?_
    refine j_istore_n C0 (L' := [(0, .ref (ad 0)), (1, .int ((nf (fRot (G 3)) (0 : Int32) jj ||| ((1 : Int32) <<< (G 3 jj &&& 31))))), (2, .int (nI jj))]) dL_isRota_19 (by decide) rfl ?_
    refine j_iinc C0 (v := nI (jj + 1)) (L' := [(0, .ref (ad 0)), (1, .int ((nf (fRot (G 3)) (0 : Int32) jj ||| ((1 : Int32) <<< (G 3 jj &&& 31))))), (2, .int (nI (jj + 1)))]) dL_isRota_20 rfl (nI_inc jj) (by decide) rfl ?_
    refine j_goto C0 4 dL_isRota_23 (by decide) ?_
    refine j_widen (k := 2 * (jj + 1)) (n := 12 * (jj + 1)) (by omega) (by omega) ?_
    exact K4
  ·
    show J p l e _ s m args below meth c (fun q => z ≤ q) 3 _ (LV D Y z tE ac ap ad F G N Q cf pf) (2 * 6) (12 * 6) 4 [(0, .ref (ad 0)), (1, .int (nf (fRot (G 3)) (0 : Int32) 6)), (2, .int (nI 6))] []
    refine j_iload_n C0 dL_isRota_4 rfl ?_
    refine j_bipush C0 (v := 6) dL_isRota_5 (by decide) ?_
    refine j_icmp_ge C0 26 dL_isRota_7 (by decide) (fun _ => ?_) (fun z9 => absurd (nI_le (Nat.le_refl _) (by decide)) z9)
    refine j_iload_n C0 dL_isRota_26 rfl ?_
    refine j_bipush C0 (v := 63) dL_isRota_27 (by decide) ?_
    refine j_icmp_ne C0 36 dL_isRota_29 (by decide) (fun z9 => absurd (z_rot63 hpm) z9) (fun _ => ?_)
    refine j_iconst C0 (v := 1) dL_isRota_32 (by decide) ?_
    refine j_goto C0 37 dL_isRota_33 (by decide) ?_
    refine j_widen (k := 12) (n := 72) (by omega) (by omega) ?_
    exact j_zretE C0 rfl rfl (by decide) dL_isRota_37 (fun H h => h)
set_option maxRecDepth 100000 in
set_option maxHeartbeats 4000000 in
theorem k_L_isMoney {l : Launch} (hsl : l.stackTraces = false) {D : va_G} {Y : Nat → ClassId} {z tE mi ac ap : Nat} {ad : Nat → Nat} (F : Nat → Int32) (G : Nat → Nat → Int32) (N : Nat → Nat) (Q : Nat → Nat → Nat) (cf pf : Nat → Int32) (hn0 : N 0 ≤ 30) (h10 : N 0 ≤ 10) (hc1 : cf 1 = nI (N 0)) (hmo : F 1 + F 2 + zIs (G 4) 6 = zIs (G 13) (N 0)) : KM l yL_isMoney cL_isMoney 4 (some .boolean) D Y (fun q => z ≤ q) (EC (fun q => z ≤ q) tE mi) 10 300 36 216 [.ref (ad 0), .ref (ac)] (LV D Y z tE ac ap ad F G N Q cf pf) (some (.int 1)) (LV D Y z tE ac ap ad F G N Q cf pf) := by
  refine KM_of RL [(0, .ref (ad 0)), (1, .ref (ac))] rfl (by decide) hsl (Nat.le_of_ble_eq_true rfl) rfl (lok_of rfl rfl) ?_
  intro p e s m args below meth c C0
  refine j_aload_n C0 dL_isMoney_0 rfl ?_
  refine j_callVv C0 (lv_kx (z := z) (ac := ac) (ap := ap) (cf := cf) (pf := pf) rfl rfl (k_X6_tugPay hsl (A := AC z ac ap) (E := EC (AC z ac ap) tE mi) (fun U h => h) ad F G N Q  )) mv_X6_tugPay wm_L_115 (lv_recv C0) rfl rfl ⟨Nat.le_of_ble_eq_true rfl, Nat.le_of_ble_eq_true rfl⟩ (Nat.le_of_ble_eq_true rfl) ⟨by show _ ≤ (36 : Nat); omega, by show _ ≤ (216 : Nat); omega⟩ dL_isMoney_1 ?_
  refine j_aload_n C0 dL_isMoney_4 rfl ?_
  refine j_callVv C0 (lv_kx (z := z) (ac := ac) (ap := ap) (cf := cf) (pf := pf) rfl rfl (k_X6_port hsl (A := AC z ac ap) (E := EC (AC z ac ap) tE mi) (fun U h => h) ad F G N Q  )) mv_X6_port wm_L_118 (lv_recv C0) rfl rfl ⟨Nat.le_of_ble_eq_true rfl, Nat.le_of_ble_eq_true rfl⟩ (Nat.le_of_ble_eq_true rfl) ⟨by show _ ≤ (36 : Nat); omega, by show _ ≤ (216 : Nat); omega⟩ dL_isMoney_5 ?_
  refine j_iadd C0 dL_isMoney_8 ?_
  refine j_istore_n C0 (L' := [(0, .ref (ad 0)), (1, .ref (ac)), (2, .int ((F 1 + F 2)))]) dL_isMoney_9 (by decide) rfl ?_
  refine j_iconst C0 (v := 0) dL_isMoney_10 (by decide) ?_
  refine j_istore_n C0 (L' := [(0, .ref (ad 0)), (1, .ref (ac)), (2, .int ((F 1 + F 2))), (3, .int ((0 : Int32)))]) dL_isMoney_11 (by decide) rfl ?_
  refine j_widen (k := 4 + 2 * 0) (n := 24 + 12 * 0) (by omega) (by omega) ?_
  refine j_castL (L' := [(0, .ref (ad 0)), (1, .ref (ac)), (2, .int (nf (fun j w => w + G 4 j) (F 1 + F 2) 0)), (3, .int (nI 0))]) (rfl) ?_
  refine l_loop (P := fun (jj : Nat) => J p l e _ s m args below meth c (fun q => z ≤ q) 4 _ (LV D Y z tE ac ap ad F G N Q cf pf) (4 + 2 * jj) (24 + 12 * jj) 12 [(0, .ref (ad 0)), (1, .ref (ac)), (2, .int (nf (fun j w => w + G 4 j) (F 1 + F 2) jj)), (3, .int (nI jj))] []) 6 ?_ (fun jj hjj K12 => ?_)
  rotate_left
  ·
    show J p l e _ s m args below meth c (fun q => z ≤ q) 4 _ (LV D Y z tE ac ap ad F G N Q cf pf) (4 + 2 * jj) (24 + 12 * jj) 12 [(0, .ref (ad 0)), (1, .ref (ac)), (2, .int (nf (fun j w => w + G 4 j) (F 1 + F 2) jj)), (3, .int (nI jj))] []
    replace K12 : J p l e _ s m args below meth c (fun q => z ≤ q) 4 _ (LV D Y z tE ac ap ad F G N Q cf pf) (4 + 2 * (jj + 1)) (24 + 12 * (jj + 1)) 12 [(0, .ref (ad 0)), (1, .ref (ac)), (2, .int (nf (fun j w => w + G 4 j) (F 1 + F 2) (jj + 1))), (3, .int (nI (jj + 1)))] [] := K12
    refine j_iload_n C0 dL_isMoney_12 rfl ?_
    refine j_bipush C0 (v := 6) dL_isMoney_13 (by decide) ?_
    refine j_icmp_ge C0 32 dL_isMoney_15 (by decide) (fun z9 => absurd z9 (nI_ge (by omega) (by decide))) (fun _ => ?_)
    refine j_iload_n C0 dL_isMoney_18 rfl ?_
    refine j_aload_n C0 dL_isMoney_19 rfl ?_
    refine j_iload_n C0 dL_isMoney_20 rfl ?_
    refine j_callVv C0 (lv_kx (z := z) (ac := ac) (ap := ap) (cf := cf) (pf := pf) (zv_earned (F := F) (G := G) (N := N) (Q := Q) (k := jj) (by omega)).1 (zv_earned (F := F) (G := G) (N := N) (Q := Q) (k := jj) (by omega)).2 (k_X6_earned hsl (A := AC z ac ap) (E := EC (AC z ac ap) tE mi) (fun U h => h) ad F G N Q (nI jj) )) mv_X6_earned wm_L_121 (lv_recv C0) rfl rfl ⟨Nat.le_of_ble_eq_true rfl, Nat.le_of_ble_eq_true rfl⟩ (Nat.le_of_ble_eq_true rfl) ⟨by show _ ≤ (36 : Nat); omega, by show _ ≤ (216 : Nat); omega⟩ dL_isMoney_21 ?_
    refine j_iadd C0 dL_isMoney_24 ?_
    refine j_istore_n C0 (L' := [(0, .ref (ad 0)), (1, .ref (ac)), (2, .int ((nf (fun j w => w + G 4 j) (F 1 + F 2) jj + G 4 jj))), (3, .int (nI jj))]) dL_isMoney_25 (by decide) rfl ?_
    refine j_iinc C0 (v := nI (jj + 1)) (L' := [(0, .ref (ad 0)), (1, .ref (ac)), (2, .int ((nf (fun j w => w + G 4 j) (F 1 + F 2) jj + G 4 jj))), (3, .int (nI (jj + 1)))]) dL_isMoney_26 rfl (nI_inc jj) (by decide) rfl ?_
    refine j_goto C0 12 dL_isMoney_29 (by decide) ?_
    refine j_widen (k := 4 + 2 * (jj + 1)) (n := 24 + 12 * (jj + 1)) (by omega) (by omega) ?_
    exact K12
  ·
    show J p l e _ s m args below meth c (fun q => z ≤ q) 4 _ (LV D Y z tE ac ap ad F G N Q cf pf) (4 + 2 * 6) (24 + 12 * 6) 12 [(0, .ref (ad 0)), (1, .ref (ac)), (2, .int (nf (fun j w => w + G 4 j) (F 1 + F 2) 6)), (3, .int (nI 6))] []
    refine j_iload_n C0 dL_isMoney_12 rfl ?_
    refine j_bipush C0 (v := 6) dL_isMoney_13 (by decide) ?_
    refine j_icmp_ge C0 32 dL_isMoney_15 (by decide) (fun _ => ?_) (fun z9 => absurd (nI_le (Nat.le_refl _) (by decide)) z9)
    refine j_iconst C0 (v := 0) dL_isMoney_32 (by decide) ?_
    refine j_istore_n C0 (L' := [(0, .ref (ad 0)), (1, .ref (ac)), (2, .int (nf (fun j w => w + G 4 j) (F 1 + F 2) 6)), (3, .int ((0 : Int32)))]) dL_isMoney_33 (by decide) rfl ?_
    refine j_widen (k := 16 + 2 * 0) (n := 96 + 12 * 0) (by omega) (by omega) ?_
    refine j_castL (L' := [(0, .ref (ad 0)), (1, .ref (ac)), (2, .int (nf (fun j w => w - G 13 j) (nf (fun j w => w + G 4 j) (F 1 + F 2) 6) 0)), (3, .int (nI 0))]) (rfl) ?_
    refine l_loop (P := fun (jj : Nat) => J p l e _ s m args below meth c (fun q => z ≤ q) 4 _ (LV D Y z tE ac ap ad F G N Q cf pf) (16 + 2 * jj) (96 + 12 * jj) 34 [(0, .ref (ad 0)), (1, .ref (ac)), (2, .int (nf (fun j w => w - G 13 j) (nf (fun j w => w + G 4 j) (F 1 + F 2) 6) jj)), (3, .int (nI jj))] []) (N 0) ?_ (fun jj hjj K34 => ?_)
    rotate_left
    ·
      show J p l e _ s m args below meth c (fun q => z ≤ q) 4 _ (LV D Y z tE ac ap ad F G N Q cf pf) (16 + 2 * jj) (96 + 12 * jj) 34 [(0, .ref (ad 0)), (1, .ref (ac)), (2, .int (nf (fun j w => w - G 13 j) (nf (fun j w => w + G 4 j) (F 1 + F 2) 6) jj)), (3, .int (nI jj))] []
      replace K34 : J p l e _ s m args below meth c (fun q => z ≤ q) 4 _ (LV D Y z tE ac ap ad F G N Q cf pf) (16 + 2 * (jj + 1)) (96 + 12 * (jj + 1)) 34 [(0, .ref (ad 0)), (1, .ref (ac)), (2, .int (nf (fun j w => w - G 13 j) (nf (fun j w => w + G 4 j) (F 1 + F 2) 6) (jj + 1))), (3, .int (nI (jj + 1)))] [] := K34
      refine j_iload_n C0 dL_isMoney_34 rfl ?_
      refine j_aload_n C0 dL_isMoney_35 rfl ?_
      refine j_iconst C0 (v := 1) dL_isMoney_36 (by decide) ?_
      refine l_ldcN C0 (i := 1) (by omega) dL_isMoney_37 (v := nI (N 0)) hc1 ?_
      refine j_icmp_ge C0 55 dL_isMoney_38 (by decide) (fun z9 => absurd z9 (nI_ge (by omega) (by omega))) (fun _ => ?_)
      refine j_iload_n C0 dL_isMoney_41 rfl ?_
      refine j_aload_n C0 dL_isMoney_42 rfl ?_
      refine j_iload_n C0 dL_isMoney_43 rfl ?_
      refine j_callVv C0 (lv_kx (z := z) (ac := ac) (ap := ap) (cf := cf) (pf := pf) (zv_paid (F := F) (G := G) (N := N) (Q := Q) (k := jj) (by omega) hn0).1 (zv_paid (F := F) (G := G) (N := N) (Q := Q) (k := jj) (by omega) hn0).2 (k_X6_paid hsl (A := AC z ac ap) (E := EC (AC z ac ap) tE mi) (fun U h => h) ad F G N Q (nI jj) )) mv_X6_paid wm_L_67 (lv_recv C0) rfl rfl ⟨Nat.le_of_ble_eq_true rfl, Nat.le_of_ble_eq_true rfl⟩ (Nat.le_of_ble_eq_true rfl) ⟨by show _ ≤ (36 : Nat); omega, by show _ ≤ (216 : Nat); omega⟩ dL_isMoney_44 ?_
      refine j_isub C0 dL_isMoney_47 ?_
      refine j_istore_n C0 (L' := [(0, .ref (ad 0)), (1, .ref (ac)), (2, .int ((nf (fun j w => w - G 13 j) (nf (fun j w => w + G 4 j) (F 1 + F 2) 6) jj - G 13 jj))), (3, .int (nI jj))]) dL_isMoney_48 (by decide) rfl ?_
      refine j_iinc C0 (v := nI (jj + 1)) (L' := [(0, .ref (ad 0)), (1, .ref (ac)), (2, .int ((nf (fun j w => w - G 13 j) (nf (fun j w => w + G 4 j) (F 1 + F 2) 6) jj - G 13 jj))), (3, .int (nI (jj + 1)))]) dL_isMoney_49 rfl (nI_inc jj) (by decide) rfl ?_
      refine j_goto C0 34 dL_isMoney_52 (by decide) ?_
      refine j_widen (k := 16 + 2 * (jj + 1)) (n := 96 + 12 * (jj + 1)) (by omega) (by omega) ?_
      exact K34
    ·
      show J p l e _ s m args below meth c (fun q => z ≤ q) 4 _ (LV D Y z tE ac ap ad F G N Q cf pf) (16 + 2 * (N 0)) (96 + 12 * (N 0)) 34 [(0, .ref (ad 0)), (1, .ref (ac)), (2, .int (nf (fun j w => w - G 13 j) (nf (fun j w => w + G 4 j) (F 1 + F 2) 6) (N 0))), (3, .int (nI (N 0)))] []
      refine j_iload_n C0 dL_isMoney_34 rfl ?_
      refine j_aload_n C0 dL_isMoney_35 rfl ?_
      refine j_iconst C0 (v := 1) dL_isMoney_36 (by decide) ?_
      refine l_ldcN C0 (i := 1) (by omega) dL_isMoney_37 (v := nI (N 0)) hc1 ?_
      refine j_icmp_ge C0 55 dL_isMoney_38 (by decide) (fun _ => ?_) (fun z9 => absurd (nI_le (Nat.le_refl _) (by omega)) z9)
      refine j_iload_n C0 dL_isMoney_55 rfl ?_
      refine j_if_ne C0 63 dL_isMoney_56 (by decide) (fun z9 => absurd (by rw [z_nfsub, z_nfadd, hmo]; exact Int32.sub_self _) z9) (fun _ => ?_)
      refine j_iconst C0 (v := 1) dL_isMoney_59 (by decide) ?_
      refine j_goto C0 64 dL_isMoney_60 (by decide) ?_
      refine j_widen (k := 36) (n := 216) (by omega) (by omega) ?_
      exact j_zretE C0 rfl rfl (by decide) dL_isMoney_64 (fun H h => h)
end
