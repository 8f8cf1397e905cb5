theorem k_X5_tellSurgeL {l : Launch} (hsl : l.stackTraces = false) {D : va_G} {Y : Nat → ClassId} {A : Nat → Prop} {E : State → Prop} {tE : Nat} (ad : Nat → Nat) (F : Nat → Int32) (G : Nat → Nat → Int32) (N : Nat → Nat) (Q : Nat → Nat → Nat) (sa ma : Nat → Nat) (f : Int32) (h : Int32) (a3 : Int32)  (hf : (f).toNatClampNeg ≤ 3100) (hh : (h).toNatClampNeg ≤ 48) (ef : f = nI (f).toNatClampNeg) (eh : h = nI (h).toNatClampNeg) : KM l yX5_tellSurge cX5_tellSurge 6 none D Y A E 1 30 0 0 [.ref (ad 1), .int (f), .int (h), .int (a3)] (CR D Y A tE ad F G N Q sa ma) none (CR D Y A tE ad F (hu G 1 (sX5_tellSurge F G N Q (f).toNatClampNeg (h).toNatClampNeg a3)) N Q sa ma) := by
  have h9 := k_X5_tellSurge (D := D) (Y := Y) (A := A) (E := E) (tE := tE) hsl ad F G N Q sa ma ((f).toNatClampNeg) ((h).toNatClampNeg) a3 hf hh
  rw [← ef] at h9
  rw [← eh] at h9
  exact h9
theorem k_X0_atL {l : Launch} (hsl : l.stackTraces = false) {D : va_G} {Y : Nat → ClassId} {A : Nat → Prop} {E : State → Prop} {tE : Nat} (ad : Nat → Nat) (F : Nat → Int32) (G : Nat → Nat → Int32) (N : Nat → Nat) (Q : Nat → Nat → Nat) (sa ma : Nat → Nat) (i : Int32)  (hi : (i).toNatClampNeg < N 1) (ei : i = nI (i).toNatClampNeg) : KM l yX0_at cX0_at 2 (some (.object "HarborTides$Move")) D Y A E 3 90 0 0 [.ref (ad 3), .int (i)] (CR D Y A tE ad F G N Q sa ma) (some (.ref ((ma (i).toNatClampNeg)))) (CR D Y A tE ad F G N Q sa ma) := by
  have h9 := k_X0_at (D := D) (Y := Y) (A := A) (E := E) (tE := tE) hsl ad F G N Q sa ma ((i).toNatClampNeg) hi
  rw [← ei] at h9
  exact h9
theorem k_X0_pilotIsReadyL {l : Launch} (hsl : l.stackTraces = false) {D : va_G} {Y : Nat → ClassId} {A : Nat → Prop} {E : State → Prop} {tE : Nat} (ad : Nat → Nat) (F : Nat → Int32) (G : Nat → Nat → Int32) (N : Nat → Nat) (Q : Nat → Nat → Nat) (sa ma : Nat → Nat) (a1 : Int32) (a2 : Int32) (f : Int32)  (hf : (f).toNatClampNeg ≤ N 1) (ef : f = nI (f).toNatClampNeg) : KM l yX0_pilotIsReady cX0_pilotIsReady 8 (some .boolean) D Y A E 3 90 0 0 [.ref (ad 3), .int (a1), .int (a2), .int (f)] (CR D Y A tE ad F G N Q sa ma) (some (.int (vX0_pilotIsReady F G N Q a1 a2 (f).toNatClampNeg))) (CR D Y A tE ad F G N Q sa ma) := by
  have h9 := k_X0_pilotIsReady (D := D) (Y := Y) (A := A) (E := E) (tE := tE) hsl ad F G N Q sa ma a1 a2 ((f).toNatClampNeg) hf
  rw [← ef] at h9
  exact h9
theorem k_X0_readyTugsL {l : Launch} (hsl : l.stackTraces = false) {D : va_G} {Y : Nat → ClassId} {A : Nat → Prop} {E : State → Prop} {tE : Nat} (ad : Nat → Nat) (F : Nat → Int32) (G : Nat → Nat → Int32) (N : Nat → Nat) (Q : Nat → Nat → Nat) (sa ma : Nat → Nat) (a1 : Int32) (f : Int32)  (hf : (f).toNatClampNeg ≤ N 1) (ef : f = nI (f).toNatClampNeg) : KM l yX0_readyTugs cX0_readyTugs 6 (some .int) D Y A E 3 90 0 0 [.ref (ad 3), .int (a1), .int (f)] (CR D Y A tE ad F G N Q sa ma) (some (.int (vX0_readyTugs F G N Q a1 (f).toNatClampNeg))) (CR D Y A tE ad F G N Q sa ma) := by
  have h9 := k_X0_readyTugs (D := D) (Y := Y) (A := A) (E := E) (tE := tE) hsl ad F G N Q sa ma a1 ((f).toNatClampNeg) hf
  rw [← ef] at h9
  exact h9
theorem k_X0_berthIsFreeL {l : Launch} (hsl : l.stackTraces = false) {D : va_G} {Y : Nat → ClassId} {A : Nat → Prop} {E : State → Prop} {tE : Nat} (ad : Nat → Nat) (F : Nat → Int32) (G : Nat → Nat → Int32) (N : Nat → Nat) (Q : Nat → Nat → Nat) (sa ma : Nat → Nat) (a1 : Int32) (a2 : Int32) (f : Int32)  (hf : (f).toNatClampNeg ≤ N 1) (ef : f = nI (f).toNatClampNeg) : KM l yX0_berthIsFree cX0_berthIsFree 7 (some .boolean) D Y A E 3 90 0 0 [.ref (ad 3), .int (a1), .int (a2), .int (f)] (CR D Y A tE ad F G N Q sa ma) (some (.int (vX0_berthIsFree F G N Q a1 a2 (f).toNatClampNeg))) (CR D Y A tE ad F G N Q sa ma) := by
  have h9 := k_X0_berthIsFree (D := D) (Y := Y) (A := A) (E := E) (tE := tE) hsl ad F G N Q sa ma a1 a2 ((f).toNatClampNeg) hf
  rw [← ef] at h9
  exact h9
theorem wr_ok {a t : Int32} (ht : ct t 3000) (h : eX6_checkRange a (t + (3 : Int32)) (3100 : Int32) = 0) : vp_in a 3101 := by
  have h1 := cr_ok h
  obtain ⟨k, h2, rfl⟩ := ht
  rw [show (3 : Int32) = nI 3 from rfl, nI_add] at h1
  rw [vp_in_iff]
  simp only [Int32.le_iff_toInt_le] at h1
  rw [nI_toInt (by omega)] at h1
  have h3 : (3100 : Int32).toInt = 3100 := by decide
  omega
theorem cr_vp1 {a c : Int32} {n : Nat} (h : eX6_checkRange a 1 c = 0) (hc : c.toInt < n) : vp_in a n := by
  have h1 := cr_ok h
  rw [vp_in_iff]
  simp only [Int32.le_iff_toInt_le] at h1
  have h3 : (1 : Int32).toInt = 1 := by decide
  omega
/-! ## HarborTides.wind(III)I -/
def eX6_wind (F : Nat → Int32) (G : Nat → Nat → Int32) (N : Nat → Nat) (Q : Nat → Nat → Nat) (a1 : Int32) (a2 : Int32) (a3 : Int32) : Nat := (if (eX6_checkRange (a1) (((F 0) + (3 : Int32))) ((3100 : Int32))) = 0 then (if (eX6_checkRange (a2) ((1 : Int32)) ((48 : Int32))) = 0 then (if (eX6_checkRange (a3) ((-40 : Int32)) ((40 : Int32))) = 0 then 0 else (eX6_checkRange (a3) ((-40 : Int32)) ((40 : Int32)))) else (eX6_checkRange (a2) ((1 : Int32)) ((48 : Int32)))) else (eX6_checkRange (a1) (((F 0) + (3 : Int32))) ((3100 : Int32))))
def vX6_wind (F : Nat → Int32) (G : Nat → Nat → Int32) (N : Nat → Nat) (Q : Nat → Nat → Nat) (a1 : Int32) (a2 : Int32) (a3 : Int32) : Int32 := (if (eX6_checkRange (a1) (((F 0) + (3 : Int32))) ((3100 : Int32))) = 0 then (if (eX6_checkRange (a2) ((1 : Int32)) ((48 : Int32))) = 0 then (if (eX6_checkRange (a3) ((-40 : Int32)) ((40 : Int32))) = 0 then ((G 1) (a1).toNatClampNeg) else (0 : Int32)) else (0 : Int32)) else (0 : Int32))
def sX6_wind (F : Nat → Int32) (G : Nat → Nat → Int32) (N : Nat → Nat) (Q : Nat → Nat → Nat) (a1 : Int32) (a2 : Int32) (a3 : Int32) : (Nat → Int32) := (if (eX6_checkRange (a1) (((F 0) + (3 : Int32))) ((3100 : Int32))) = 0 then (if (eX6_checkRange (a2) ((1 : Int32)) ((48 : Int32))) = 0 then (if (eX6_checkRange (a3) ((-40 : Int32)) ((40 : Int32))) = 0 then ((sX5_tellSurge F G N Q ((a1).toNatClampNeg) ((a2).toNatClampNeg) (a3))) else ((G 1))) else ((G 1))) else ((G 1)))
set_option maxRecDepth 100000 in
set_option maxHeartbeats 4000000 in
theorem k_X6_wind {l : Launch} (hsl : l.stackTraces = false) {D : va_G} {Y : Nat → ClassId} {A : Nat → Prop} {E : State → Prop} {tE : Nat} {mi : Nat} (hE : ∀ U, E U → EC A tE mi U) (ad : Nat → Nat) (F : Nat → Int32) (G : Nat → Nat → Int32) (N : Nat → Nat) (Q : Nat → Nat → Nat)  (a1 : Int32) (a2 : Int32) (a3 : Int32)  (hnow : ct (F 0) 3000) : XM l yX6_wind cX6_wind 5 (some .int) D Y A E 7 112 8 300 [.ref (ad 0), .int (a1), .int (a2), .int (a3)] (CA D Y A tE ad F G N Q) (some (.int (vX6_wind F G N Q a1 a2 a3))) (eX6_wind F G N Q a1 a2 a3) (CA D Y A tE ad F (hu G 1 (sX6_wind F G N Q a1 a2 a3)) N Q) := by
  refine XM_of RX6 [(0, .ref (ad 0)), (1, .int (a1)), (2, .int (a2)), (3, .int (a3))] rfl (by decide) hsl (Nat.le_of_ble_eq_true rfl) rfl (lok_of rfl rfl) ?_
  intro p e s m args below meth c C0 hexc
  refine j_ex (fun sa => ?_)
  refine j_ex (fun ma => ?_)
  show J p l e _ s m args below meth c A 5 _ (CO D Y A tE ad (F 0) (F 1) (F 2) (G 0) (G 1) (G 2) (G 3) (G 4) (G 5) (G 6) (G 7) (G 8) (G 9) (G 10) (G 11) (G 12) (G 13) (G 14) (G 15) (G 16) (G 17) (G 18) (G 19) (N 0) (N 1) (N 2) (Q 0) (Q 1) sa ma) 0 0 0 [(0, .ref (ad 0)), (1, .int (a1)), (2, .int (a2)), (3, .int (a3))] []
  refine c_fact (fun cel h => ci_f h) (fun hcf => ?_)
  obtain ⟨hn0, hn1, hn2, hq0, hq1⟩ := hcf
  refine j_iload_n C0 dX6_wind_0 rfl ?_
  refine j_aload_n C0 dX6_wind_1 rfl ?_
  refine c_get C0 in_X6 (ci := 9) rfl 0 (fun cel h => ci_0 h) 5 (by decide) wf_X6_44 (v := .int ((F 0))) rfl dX6_wind_2 ?_
  refine j_iconst C0 (v := 3) dX6_wind_5 (by decide) ?_
  refine j_iadd C0 dX6_wind_6 ?_
  refine j_sipush C0 (v := 3100) dX6_wind_7 (by decide) ?_
  refine j_xcallS C0 hexc (k_X6_checkRange hsl hE (a1) (((F 0) + (3 : Int32))) ((3100 : Int32)) GW.cw ) ms_X6_checkRange wm_X6_58 rfl rfl ⟨Nat.le_of_ble_eq_true rfl, Nat.le_of_ble_eq_true rfl⟩ (Nat.le_of_ble_eq_true rfl) ⟨(Nat.le_of_ble_eq_true rfl), (Nat.le_of_ble_eq_true rfl)⟩ dX6_wind_10 ⟨(Nat.le_of_ble_eq_true rfl), (Nat.le_of_ble_eq_true rfl)⟩ (fun (q1 : ¬ (eX6_checkRange (a1) (((F 0) + (3 : Int32))) ((3100 : Int32))) = 0) => ⟨by rw [eX6_wind, if_neg q1], fun H h => by rw [sX6_wind, if_neg q1]; exact ⟨_, _, h⟩⟩) (fun (q1 : (eX6_checkRange (a1) (((F 0) + (3 : Int32))) ((3100 : Int32))) = 0) => ?_)
  obtain ⟨hea1, hla1⟩ := vp_nat (by omega) (wr_ok hnow q1)
  show J p l e _ s m args below meth c A 5 _ (CO D Y A tE ad (F 0) (F 1) (F 2) (G 0) (G 1) (G 2) (G 3) (G 4) (G 5) (G 6) (G 7) (G 8) (G 9) (G 10) (G 11) (G 12) (G 13) (G 14) (G 15) (G 16) (G 17) (G 18) (G 19) (N 0) (N 1) (N 2) (Q 0) (Q 1) sa ma) (0 + 1) (0 + 6) 13 [(0, .ref (ad 0)), (1, .int (a1)), (2, .int (a2)), (3, .int (a3))] []
  refine j_iload_n C0 dX6_wind_13 rfl ?_
  refine j_iconst C0 (v := 1) dX6_wind_14 (by decide) ?_
  refine j_bipush C0 (v := 48) dX6_wind_15 (by decide) ?_
  refine j_xcallS C0 hexc (k_X6_checkRange hsl hE (a2) ((1 : Int32)) ((48 : Int32)) GW.cw ) ms_X6_checkRange wm_X6_58 rfl rfl ⟨Nat.le_of_ble_eq_true rfl, Nat.le_of_ble_eq_true rfl⟩ (Nat.le_of_ble_eq_true rfl) ⟨(Nat.le_of_ble_eq_true rfl), (Nat.le_of_ble_eq_true rfl)⟩ dX6_wind_17 ⟨(Nat.le_of_ble_eq_true rfl), (Nat.le_of_ble_eq_true rfl)⟩ (fun (q2 : ¬ (eX6_checkRange (a2) ((1 : Int32)) ((48 : Int32))) = 0) => ⟨by rw [eX6_wind, if_pos q1, if_neg q2], fun H h => by rw [sX6_wind, if_pos q1, if_neg q2]; exact ⟨_, _, h⟩⟩) (fun (q2 : (eX6_checkRange (a2) ((1 : Int32)) ((48 : Int32))) = 0) => ?_)
  obtain ⟨hea2, hla2⟩ := vp_nat (n := 49) (by omega) (cr_vp1 q2 (by decide))
  show J p l e _ s m args below meth c A 5 _ (CO D Y A tE ad (F 0) (F 1) (F 2) (G 0) (G 1) (G 2) (G 3) (G 4) (G 5) (G 6) (G 7) (G 8) (G 9) (G 10) (G 11) (G 12) (G 13) (G 14) (G 15) (G 16) (G 17) (G 18) (G 19) (N 0) (N 1) (N 2) (Q 0) (Q 1) sa ma) ((0 + 1) + 1) ((0 + 6) + 6) 20 [(0, .ref (ad 0)), (1, .int (a1)), (2, .int (a2)), (3, .int (a3))] []
  refine j_iload_n C0 dX6_wind_20 rfl ?_
  refine j_bipush C0 (v := -40) dX6_wind_21 (by decide) ?_
  refine j_bipush C0 (v := 40) dX6_wind_23 (by decide) ?_
  refine j_xcallS C0 hexc (k_X6_checkRange hsl hE (a3) ((-40 : Int32)) ((40 : Int32)) GW.cw ) ms_X6_checkRange wm_X6_58 rfl rfl ⟨Nat.le_of_ble_eq_true rfl, Nat.le_of_ble_eq_true rfl⟩ (Nat.le_of_ble_eq_true rfl) ⟨(Nat.le_of_ble_eq_true rfl), (Nat.le_of_ble_eq_true rfl)⟩ dX6_wind_25 ⟨(Nat.le_of_ble_eq_true rfl), (Nat.le_of_ble_eq_true rfl)⟩ (fun (q3 : ¬ (eX6_checkRange (a3) ((-40 : Int32)) ((40 : Int32))) = 0) => ⟨by rw [eX6_wind, if_pos q1, if_pos q2, if_neg q3], fun H h => by rw [sX6_wind, if_pos q1, if_pos q2, if_neg q3]; exact ⟨_, _, h⟩⟩) (fun (q3 : (eX6_checkRange (a3) ((-40 : Int32)) ((40 : Int32))) = 0) => ?_)
  show J p l e _ s m args below meth c A 5 _ (CO D Y A tE ad (F 0) (F 1) (F 2) (G 0) (G 1) (G 2) (G 3) (G 4) (G 5) (G 6) (G 7) (G 8) (G 9) (G 10) (G 11) (G 12) (G 13) (G 14) (G 15) (G 16) (G 17) (G 18) (G 19) (N 0) (N 1) (N 2) (Q 0) (Q 1) sa ma) (((0 + 1) + 1) + 1) (((0 + 6) + 6) + 6) 28 [(0, .ref (ad 0)), (1, .int (a1)), (2, .int (a2)), (3, .int (a3))] []
  refine j_aload_n C0 dX6_wind_28 rfl ?_
  refine c_get C0 in_X6 (ci := 9) rfl 0 (fun cel h => ci_0 h) 0 (by decide) wf_X6_10 rfl dX6_wind_29 ?_
  refine c_get C0 in_X5 (ci := 8) rfl 1 (fun cel h => ci_1 h) 1 (by decide) wf_X6_77 rfl dX6_wind_32 ?_
  refine j_iload_n C0 dX6_wind_35 rfl ?_
  refine c_iald C0 7 (fun cel h => ci_7 h) (v := ((G 1) (a1).toNatClampNeg)) (wr_ok hnow q1) dX6_wind_36 rfl ?_
  refine j_istore C0 (L' := [(0, .ref (ad 0)), (1, .int (a1)), (2, .int (a2)), (3, .int (a3)), (4, .int (((G 1) (a1).toNatClampNeg)))]) dX6_wind_37 (by decide) rfl ?_
  refine j_aload_n C0 dX6_wind_39 rfl ?_
  refine c_get C0 in_X6 (ci := 9) rfl 0 (fun cel h => ci_0 h) 0 (by decide) wf_X6_10 rfl dX6_wind_40 ?_
  refine j_iload_n C0 dX6_wind_43 rfl ?_
  refine j_iload_n C0 dX6_wind_44 rfl ?_
  refine j_iload_n C0 dX6_wind_45 rfl ?_
  refine j_callVn C0 (k_X5_tellSurgeL hsl ad F G N Q sa ma  (a1) (a2) (a3)  (by omega) (by omega) hea1 hea2) mv_X5_tellSurge wm_X6_80 (c_recv C0 (ci := 8) rfl 1 (fun cel h => ⟨_, ci_1 h⟩)) rfl rfl ⟨Nat.le_of_ble_eq_true rfl, Nat.le_of_ble_eq_true rfl⟩ (Nat.le_of_ble_eq_true rfl) ⟨(Nat.le_of_ble_eq_true rfl), (Nat.le_of_ble_eq_true rfl)⟩ dX6_wind_46 ?_
  show J p l e _ s m args below meth c A 5 _ (CO D Y A tE ad (F 0) (F 1) (F 2) (G 0) (sX5_tellSurge F G N Q ((a1).toNatClampNeg) ((a2).toNatClampNeg) (a3)) (G 2) (G 3) (G 4) (G 5) (G 6) (G 7) (G 8) (G 9) (G 10) (G 11) (G 12) (G 13) (G 14) (G 15) (G 16) (G 17) (G 18) (G 19) (N 0) (N 1) (N 2) (Q 0) (Q 1) sa ma) (((0 + 1) + 1) + 1) (((0 + 6) + 6) + 6) 49 [(0, .ref (ad 0)), (1, .int (a1)), (2, .int (a2)), (3, .int (a3)), (4, .int (((G 1) (a1).toNatClampNeg)))] []
  refine j_iload C0 dX6_wind_49 rfl ?_
  refine j_xret (by rw [eX6_wind, if_pos q1, if_pos q2, if_pos q3]) (Nat.le_of_ble_eq_true rfl) (Nat.le_of_ble_eq_true rfl) ?_
  exact j_iretE C0 rfl (by rw [vX6_wind, if_pos q1, if_pos q2, if_pos q3]) dX6_wind_51 (fun H h => by rw [sX6_wind, if_pos q1, if_pos q2, if_pos q3]; exact ⟨_, _, h⟩)
/-! ## HarborTides.move(I)I -/
def eX6_move (F : Nat → Int32) (G : Nat → Nat → Int32) (N : Nat → Nat) (Q : Nat → Nat → Nat) (a1 : Int32) : Nat := (if (eX6_checkPlace (a1) (nI (N 1))) = 0 then (if ((G 17) (a1).toNatClampNeg) = 0 then 0 else 0) else (eX6_checkPlace (a1) (nI (N 1))))
def vX6_move (F : Nat → Int32) (G : Nat → Nat → Int32) (N : Nat → Nat) (Q : Nat → Nat → Nat) (a1 : Int32) : Int32 := (if (eX6_checkPlace (a1) (nI (N 1))) = 0 then (if ((G 17) (a1).toNatClampNeg) = 0 then (((((10000 : Int32) * ((G 16) (a1).toNatClampNeg)) + ((100 : Int32) * ((G 5) ((Q 1) (a1).toNatClampNeg)))) + ((10 : Int32) * ((G 18) (a1).toNatClampNeg))) + (0 : Int32)) else (((((10000 : Int32) * ((G 16) (a1).toNatClampNeg)) + ((100 : Int32) * ((G 5) ((Q 1) (a1).toNatClampNeg)))) + ((10 : Int32) * ((G 18) (a1).toNatClampNeg))) + (1 : Int32))) else (0 : Int32))
set_option maxRecDepth 100000 in
set_option maxHeartbeats 4000000 in
theorem k_X6_move {l : Launch} (hsl : l.stackTraces = false) {D : va_G} {Y : Nat → ClassId} {A : Nat → Prop} {E : State → Prop} {tE : Nat} {mi : Nat} (hE : ∀ U, E U → EC A tE mi U) (ad : Nat → Nat) (F : Nat → Int32) (G : Nat → Nat → Int32) (N : Nat → Nat) (Q : Nat → Nat → Nat)  (a1 : Int32)   : XM l yX6_move cX6_move 3 (some .int) D Y A E 7 111 2 12 [.ref (ad 0), .int (a1)] (CA D Y A tE ad F G N Q) (some (.int (vX6_move F G N Q a1))) (eX6_move F G N Q a1) (CA D Y A tE ad F G N Q) := by
  refine XM_of RX6 [(0, .ref (ad 0)), (1, .int (a1))] rfl (by decide) hsl (Nat.le_of_ble_eq_true rfl) rfl (lok_of rfl rfl) ?_
  intro p e s m args below meth c C0 hexc
  refine j_ex (fun sa => ?_)
  refine j_ex (fun ma => ?_)
  show J p l e _ s m args below meth c A 3 _ (CO D Y A tE ad (F 0) (F 1) (F 2) (G 0) (G 1) (G 2) (G 3) (G 4) (G 5) (G 6) (G 7) (G 8) (G 9) (G 10) (G 11) (G 12) (G 13) (G 14) (G 15) (G 16) (G 17) (G 18) (G 19) (N 0) (N 1) (N 2) (Q 0) (Q 1) sa ma) 0 0 0 [(0, .ref (ad 0)), (1, .int (a1))] []
  refine c_fact (fun cel h => ci_f h) (fun hcf => ?_)
  obtain ⟨hn0, hn1, hn2, hq0, hq1⟩ := hcf
  refine j_iload_n C0 dX6_move_0 rfl ?_
  refine j_aload_n C0 dX6_move_1 rfl ?_
  refine c_get C0 in_X6 (ci := 9) rfl 0 (fun cel h => ci_0 h) 2 (by decide) wf_X6_26 rfl dX6_move_2 ?_
  refine j_callVv C0 (k_X0_count hsl ad F G N Q sa ma    ) mv_X0_count wm_X6_62 (c_recv C0 (ci := 3) rfl 3 (fun cel h => ⟨_, ci_3 h⟩)) rfl rfl ⟨Nat.le_of_ble_eq_true rfl, Nat.le_of_ble_eq_true rfl⟩ (Nat.le_of_ble_eq_true rfl) ⟨Nat.zero_le _, Nat.zero_le _⟩ dX6_move_5 ?_
  show J p l e _ s m args below meth c A 3 _ (CO D Y A tE ad (F 0) (F 1) (F 2) (G 0) (G 1) (G 2) (G 3) (G 4) (G 5) (G 6) (G 7) (G 8) (G 9) (G 10) (G 11) (G 12) (G 13) (G 14) (G 15) (G 16) (G 17) (G 18) (G 19) (N 0) (N 1) (N 2) (Q 0) (Q 1) sa ma) 0 0 8 [(0, .ref (ad 0)), (1, .int (a1))] [.int (nI (N 1)), .int (a1)]
  refine j_xcallS C0 hexc (k_X6_checkPlace hsl hE (a1) (nI (N 1)) GW.cw ) ms_X6_checkPlace wm_X6_54 rfl rfl ⟨Nat.le_of_ble_eq_true rfl, Nat.le_of_ble_eq_true rfl⟩ (Nat.le_of_ble_eq_true rfl) ⟨(Nat.le_of_ble_eq_true rfl), (Nat.le_of_ble_eq_true rfl)⟩ dX6_move_8 ⟨(Nat.le_of_ble_eq_true rfl), (Nat.le_of_ble_eq_true rfl)⟩ (fun (q1 : ¬ (eX6_checkPlace (a1) (nI (N 1))) = 0) => ⟨by rw [eX6_move, if_neg q1], fun H h => ⟨_, _, h⟩⟩) (fun (q1 : (eX6_checkPlace (a1) (nI (N 1))) = 0) => ?_)
  obtain ⟨hea1, hla1⟩ := vp_nat (by omega) (cp_ok (by omega) q1)
  show J p l e _ s m args below meth c A 3 _ (CO D Y A tE ad (F 0) (F 1) (F 2) (G 0) (G 1) (G 2) (G 3) (G 4) (G 5) (G 6) (G 7) (G 8) (G 9) (G 10) (G 11) (G 12) (G 13) (G 14) (G 15) (G 16) (G 17) (G 18) (G 19) (N 0) (N 1) (N 2) (Q 0) (Q 1) sa ma) (0 + 1) (0 + 6) 11 [(0, .ref (ad 0)), (1, .int (a1))] []
  refine j_aload_n C0 dX6_move_11 rfl ?_
  refine c_get C0 in_X6 (ci := 9) rfl 0 (fun cel h => ci_0 h) 2 (by decide) wf_X6_26 rfl dX6_move_12 ?_
  refine j_iload_n C0 dX6_move_15 rfl ?_
  refine j_callVv C0 (k_X0_atL hsl ad F G N Q sa ma  (a1)  hla1 hea1) mv_X0_at wm_X6_179 (c_recv C0 (ci := 3) rfl 3 (fun cel h => ⟨_, ci_3 h⟩)) rfl rfl ⟨Nat.le_of_ble_eq_true rfl, Nat.le_of_ble_eq_true rfl⟩ (Nat.le_of_ble_eq_true rfl) ⟨(Nat.le_of_ble_eq_true rfl), (Nat.le_of_ble_eq_true rfl)⟩ dX6_move_16 ?_
  show J p l e _ s m args below meth c A 3 _ (CO D Y A tE ad (F 0) (F 1) (F 2) (G 0) (G 1) (G 2) (G 3) (G 4) (G 5) (G 6) (G 7) (G 8) (G 9) (G 10) (G 11) (G 12) (G 13) (G 14) (G 15) (G 16) (G 17) (G 18) (G 19) (N 0) (N 1) (N 2) (Q 0) (Q 1) sa ma) (0 + 1) (0 + 6) 19 [(0, .ref (ad 0)), (1, .int (a1))] [.ref ((ma (a1).toNatClampNeg))]
  refine j_astore_n C0 (L' := [(0, .ref (ad 0)), (1, .int (a1)), (2, .ref ((ma (a1).toNatClampNeg)))]) dX6_move_19 (by decide) rfl ?_
  refine j_sipush C0 (v := 10000) dX6_move_20 (by decide) ?_
  refine j_aload_n C0 dX6_move_23 rfl ?_
  refine c_get C0 in_X1 (ci := 4) rfl (21 + 2 * (a1).toNatClampNeg) (fun cel h => ci_m h (a1).toNatClampNeg (by omega)) 0 (by decide) wf_X6_183 (v := .int (((G 16) (a1).toNatClampNeg))) rfl dX6_move_24 ?_
  refine j_imul C0 dX6_move_27 ?_
  refine j_bipush C0 (v := 100) dX6_move_28 (by decide) ?_
  refine j_aload_n C0 dX6_move_30 rfl ?_
  refine c_get C0 in_X1 (ci := 4) rfl (21 + 2 * (a1).toNatClampNeg) (fun cel h => ci_m h (a1).toNatClampNeg (by omega)) 1 (by decide) wf_X6_188 (v := .ref ((sa ((Q 1) (a1).toNatClampNeg)))) rfl dX6_move_31 ?_
  refine c_get C0 in_X4 (ci := 7) rfl (20 + 2 * ((Q 1) (a1).toNatClampNeg)) (fun cel h => ci_s h ((Q 1) (a1).toNatClampNeg) (hq1 (a1).toNatClampNeg (by omega))) 0 (by decide) wf_X6_192 (v := .int (((G 5) ((Q 1) (a1).toNatClampNeg)))) rfl dX6_move_34 ?_
  refine j_imul C0 dX6_move_37 ?_
  refine j_iadd C0 dX6_move_38 ?_
  refine j_bipush C0 (v := 10) dX6_move_39 (by decide) ?_
  refine j_aload_n C0 dX6_move_41 rfl ?_
  refine c_get C0 in_X1 (ci := 4) rfl (21 + 2 * (a1).toNatClampNeg) (fun cel h => ci_m h (a1).toNatClampNeg (by omega)) 3 (by decide) wf_X6_195 (v := .int (((G 18) (a1).toNatClampNeg))) rfl dX6_move_42 ?_
  refine j_imul C0 dX6_move_45 ?_
  refine j_iadd C0 dX6_move_46 ?_
  refine j_aload_n C0 dX6_move_47 rfl ?_
  refine c_get C0 in_X1 (ci := 4) rfl (21 + 2 * (a1).toNatClampNeg) (fun cel h => ci_m h (a1).toNatClampNeg (by omega)) 2 (by decide) wf_X6_198 (v := .int (((G 17) (a1).toNatClampNeg))) rfl dX6_move_48 ?_
  refine j_if_eq C0 58 dX6_move_51 (by decide) (fun (q2 : ((G 17) (a1).toNatClampNeg) = 0) => ?_) (fun (q2 : ¬ (((G 17) (a1).toNatClampNeg) = 0)) => ?_)
  ·
    refine j_iconst C0 (v := 0) dX6_move_58 (by decide) ?_
    refine j_iadd C0 dX6_move_59 ?_
    refine j_xret (by rw [eX6_move, if_pos q1, if_pos q2]) (Nat.le_of_ble_eq_true rfl) (Nat.le_of_ble_eq_true rfl) ?_
    exact j_iretE C0 rfl (by rw [vX6_move, if_pos q1, if_pos q2]) dX6_move_60 (fun H h => ⟨_, _, h⟩)
  ·
    refine j_iconst C0 (v := 1) dX6_move_54 (by decide) ?_
    refine j_goto C0 59 dX6_move_55 (by decide) ?_
    refine j_iadd C0 dX6_move_59 ?_
    refine j_xret (by rw [eX6_move, if_pos q1, if_neg q2]) (Nat.le_of_ble_eq_true rfl) (Nat.le_of_ble_eq_true rfl) ?_
    exact j_iretE C0 rfl (by rw [vX6_move, if_pos q1, if_neg q2]) dX6_move_60 (fun H h => ⟨_, _, h⟩)
/-! ## HarborTides.isSound(I)Z -/
def eX6_isSound (F : Nat → Int32) (G : Nat → Nat → Int32) (N : Nat → Nat) (Q : Nat → Nat → Nat) (a1 : Int32) : Nat := (if (eX6_checkPlace (a1) (nI (N 1))) = 0 then (if (vX5_carries F G N Q (((Q 1) (a1).toNatClampNeg)) (((G 17) (a1).toNatClampNeg)) (((G 16) (a1).toNatClampNeg))) = 0 then 0 else (if ((G 17) (a1).toNatClampNeg) = 0 then (if (vX0_berthIsFree F G N Q (((G 9) ((Q 1) (a1).toNatClampNeg))) (((G 16) (a1).toNatClampNeg)) ((a1).toNatClampNeg)) = 0 then 0 else (if (vX0_pilotIsReady F G N Q (((G 18) (a1).toNatClampNeg)) (((G 16) (a1).toNatClampNeg)) ((a1).toNatClampNeg)) = 0 then 0 else (if (((G 19) (a1).toNatClampNeg) &&& ((vX0_readyTugs F G N Q (((G 16) (a1).toNatClampNeg)) ((a1).toNatClampNeg)) ^^^ (-1 : Int32))) = 0 then 0 else 0))) else (if (vX0_pilotIsReady F G N Q (((G 18) (a1).toNatClampNeg)) (((G 16) (a1).toNatClampNeg)) ((a1).toNatClampNeg)) = 0 then 0 else (if (((G 19) (a1).toNatClampNeg) &&& ((vX0_readyTugs F G N Q (((G 16) (a1).toNatClampNeg)) ((a1).toNatClampNeg)) ^^^ (-1 : Int32))) = 0 then 0 else 0)))) else (eX6_checkPlace (a1) (nI (N 1))))
def vX6_isSound (F : Nat → Int32) (G : Nat → Nat → Int32) (N : Nat → Nat) (Q : Nat → Nat → Nat) (a1 : Int32) : Int32 := (if (eX6_checkPlace (a1) (nI (N 1))) = 0 then (if (vX5_carries F G N Q (((Q 1) (a1).toNatClampNeg)) (((G 17) (a1).toNatClampNeg)) (((G 16) (a1).toNatClampNeg))) = 0 then (0 : Int32) else (if ((G 17) (a1).toNatClampNeg) = 0 then (if (vX0_berthIsFree F G N Q (((G 9) ((Q 1) (a1).toNatClampNeg))) (((G 16) (a1).toNatClampNeg)) ((a1).toNatClampNeg)) = 0 then (0 : Int32) else (if (vX0_pilotIsReady F G N Q (((G 18) (a1).toNatClampNeg)) (((G 16) (a1).toNatClampNeg)) ((a1).toNatClampNeg)) = 0 then (0 : Int32) else (if (((G 19) (a1).toNatClampNeg) &&& ((vX0_readyTugs F G N Q (((G 16) (a1).toNatClampNeg)) ((a1).toNatClampNeg)) ^^^ (-1 : Int32))) = 0 then (1 : Int32) else (0 : Int32)))) else (if (vX0_pilotIsReady F G N Q (((G 18) (a1).toNatClampNeg)) (((G 16) (a1).toNatClampNeg)) ((a1).toNatClampNeg)) = 0 then (0 : Int32) else (if (((G 19) (a1).toNatClampNeg) &&& ((vX0_readyTugs F G N Q (((G 16) (a1).toNatClampNeg)) ((a1).toNatClampNeg)) ^^^ (-1 : Int32))) = 0 then (1 : Int32) else (0 : Int32))))) else (0 : Int32))
set_option maxRecDepth 100000 in
set_option maxHeartbeats 4000000 in
theorem k_X6_isSound {l : Launch} (hsl : l.stackTraces = false) {D : va_G} {Y : Nat → ClassId} {A : Nat → Prop} {E : State → Prop} {tE : Nat} {mi : Nat} (hE : ∀ U, E U → EC A tE mi U) (ad : Nat → Nat) (F : Nat → Int32) (G : Nat → Nat → Int32) (N : Nat → Nat) (Q : Nat → Nat → Nat)  (a1 : Int32)  (hb : ∀ i, i < N 0 → vp_in (G 9 i) 6) (hmh : ∀ j, j < N 1 → vp_in (G 16 j) 3001) : XM l yX6_isSound cX6_isSound 3 (some .boolean) D Y A E 7 117 2 12 [.ref (ad 0), .int (a1)] (CA D Y A tE ad F G N Q) (some (.int (vX6_isSound F G N Q a1))) (eX6_isSound F G N Q a1) (CA D Y A tE ad F G N Q) := by
  refine XM_of RX6 [(0, .ref (ad 0)), (1, .int (a1))] rfl (by decide) hsl (Nat.le_of_ble_eq_true rfl) rfl (lok_of rfl rfl) ?_
  intro p e s m args below meth c C0 hexc
  refine j_ex (fun sa => ?_)
  refine j_ex (fun ma => ?_)
  show J p l e _ s m args below meth c A 3 _ (CO D Y A tE ad (F 0) (F 1) (F 2) (G 0) (G 1) (G 2) (G 3) (G 4) (G 5) (G 6) (G 7) (G 8) (G 9) (G 10) (G 11) (G 12) (G 13) (G 14) (G 15) (G 16) (G 17) (G 18) (G 19) (N 0) (N 1) (N 2) (Q 0) (Q 1) sa ma) 0 0 0 [(0, .ref (ad 0)), (1, .int (a1))] []
  refine c_fact (fun cel h => ci_f h) (fun hcf => ?_)
  obtain ⟨hn0, hn1, hn2, hq0, hq1⟩ := hcf
  refine j_iload_n C0 dX6_isSound_0 rfl ?_
  refine j_aload_n C0 dX6_isSound_1 rfl ?_
  refine c_get C0 in_X6 (ci := 9) rfl 0 (fun cel h => ci_0 h) 2 (by decide) wf_X6_26 rfl dX6_isSound_2 ?_
  refine j_callVv C0 (k_X0_count hsl ad F G N Q sa ma    ) mv_X0_count wm_X6_62 (c_recv C0 (ci := 3) rfl 3 (fun cel h => ⟨_, ci_3 h⟩)) rfl rfl ⟨Nat.le_of_ble_eq_true rfl, Nat.le_of_ble_eq_true rfl⟩ (Nat.le_of_ble_eq_true rfl) ⟨Nat.zero_le _, Nat.zero_le _⟩ dX6_isSound_5 ?_
  show J p l e _ s m args below meth c A 3 _ (CO D Y A tE ad (F 0) (F 1) (F 2) (G 0) (G 1) (G 2) (G 3) (G 4) (G 5) (G 6) (G 7) (G 8) (G 9) (G 10) (G 11) (G 12) (G 13) (G 14) (G 15) (G 16) (G 17) (G 18) (G 19) (N 0) (N 1) (N 2) (Q 0) (Q 1) sa ma) 0 0 8 [(0, .ref (ad 0)), (1, .int (a1))] [.int (nI (N 1)), .int (a1)]
  refine j_xcallS C0 hexc (k_X6_checkPlace hsl hE (a1) (nI (N 1)) GW.cw ) ms_X6_checkPlace wm_X6_54 rfl rfl ⟨Nat.le_of_ble_eq_true rfl, Nat.le_of_ble_eq_true rfl⟩ (Nat.le_of_ble_eq_true rfl) ⟨(Nat.le_of_ble_eq_true rfl), (Nat.le_of_ble_eq_true rfl)⟩ dX6_isSound_8 ⟨(Nat.le_of_ble_eq_true rfl), (Nat.le_of_ble_eq_true rfl)⟩ (fun (q1 : ¬ (eX6_checkPlace (a1) (nI (N 1))) = 0) => ⟨by rw [eX6_isSound, if_neg q1], fun H h => ⟨_, _, h⟩⟩) (fun (q1 : (eX6_checkPlace (a1) (nI (N 1))) = 0) => ?_)
  obtain ⟨hea1, hla1⟩ := vp_nat (by omega) (cp_ok (by omega) q1)
  show J p l e _ s m args below meth c A 3 _ (CO D Y A tE ad (F 0) (F 1) (F 2) (G 0) (G 1) (G 2) (G 3) (G 4) (G 5) (G 6) (G 7) (G 8) (G 9) (G 10) (G 11) (G 12) (G 13) (G 14) (G 15) (G 16) (G 17) (G 18) (G 19) (N 0) (N 1) (N 2) (Q 0) (Q 1) sa ma) (0 + 1) (0 + 6) 11 [(0, .ref (ad 0)), (1, .int (a1))] []
  refine j_aload_n C0 dX6_isSound_11 rfl ?_
  refine c_get C0 in_X6 (ci := 9) rfl 0 (fun cel h => ci_0 h) 2 (by decide) wf_X6_26 rfl dX6_isSound_12 ?_
  refine j_iload_n C0 dX6_isSound_15 rfl ?_
  refine j_callVv C0 (k_X0_atL hsl ad F G N Q sa ma  (a1)  hla1 hea1) mv_X0_at wm_X6_179 (c_recv C0 (ci := 3) rfl 3 (fun cel h => ⟨_, ci_3 h⟩)) rfl rfl ⟨Nat.le_of_ble_eq_true rfl, Nat.le_of_ble_eq_true rfl⟩ (Nat.le_of_ble_eq_true rfl) ⟨(Nat.le_of_ble_eq_true rfl), (Nat.le_of_ble_eq_true rfl)⟩ dX6_isSound_16 ?_
  show J p l e _ s m args below meth c A 3 _ (CO D Y A tE ad (F 0) (F 1) (F 2) (G 0) (G 1) (G 2) (G 3) (G 4) (G 5) (G 6) (G 7) (G 8) (G 9) (G 10) (G 11) (G 12) (G 13) (G 14) (G 15) (G 16) (G 17) (G 18) (G 19) (N 0) (N 1) (N 2) (Q 0) (Q 1) sa ma) (0 + 1) (0 + 6) 19 [(0, .ref (ad 0)), (1, .int (a1))] [.ref ((ma (a1).toNatClampNeg))]
  refine j_astore_n C0 (L' := [(0, .ref (ad 0)), (1, .int (a1)), (2, .ref ((ma (a1).toNatClampNeg)))]) dX6_isSound_19 (by decide) rfl ?_
  refine j_aload_n C0 dX6_isSound_20 rfl ?_
  refine c_get C0 in_X6 (ci := 9) rfl 0 (fun cel h => ci_0 h) 0 (by decide) wf_X6_10 rfl dX6_isSound_21 ?_
  refine j_aload_n C0 dX6_isSound_24 rfl ?_
  refine c_get C0 in_X1 (ci := 4) rfl (21 + 2 * (a1).toNatClampNeg) (fun cel h => ci_m h (a1).toNatClampNeg (by omega)) 1 (by decide) wf_X6_188 (v := .ref ((sa ((Q 1) (a1).toNatClampNeg)))) rfl dX6_isSound_25 ?_
  refine j_aload_n C0 dX6_isSound_28 rfl ?_
  refine c_get C0 in_X1 (ci := 4) rfl (21 + 2 * (a1).toNatClampNeg) (fun cel h => ci_m h (a1).toNatClampNeg (by omega)) 2 (by decide) wf_X6_198 (v := .int (((G 17) (a1).toNatClampNeg))) rfl dX6_isSound_29 ?_
  refine j_aload_n C0 dX6_isSound_32 rfl ?_
  refine c_get C0 in_X1 (ci := 4) rfl (21 + 2 * (a1).toNatClampNeg) (fun cel h => ci_m h (a1).toNatClampNeg (by omega)) 0 (by decide) wf_X6_183 (v := .int (((G 16) (a1).toNatClampNeg))) rfl dX6_isSound_33 ?_
  refine j_callVv C0 (k_X5_carries hsl ad F G N Q sa ma  (((Q 1) (a1).toNatClampNeg)) (((G 17) (a1).toNatClampNeg)) (((G 16) (a1).toNatClampNeg)) (hq1 (a1).toNatClampNeg (by omega)) hb (vp_mono (hmh _ hla1) (by decide)) (vp_mono (vp_up (by decide) (hmh _ hla1)) (by decide))) mv_X5_carries wm_X6_141 (c_recv C0 (ci := 8) rfl 1 (fun cel h => ⟨_, ci_1 h⟩)) rfl rfl ⟨Nat.le_of_ble_eq_true rfl, Nat.le_of_ble_eq_true rfl⟩ (Nat.le_of_ble_eq_true rfl) ⟨(Nat.le_of_ble_eq_true rfl), (Nat.le_of_ble_eq_true rfl)⟩ dX6_isSound_36 ?_
  show J p l e _ s m args below meth c A 3 _ (CO D Y A tE ad (F 0) (F 1) (F 2) (G 0) (G 1) (G 2) (G 3) (G 4) (G 5) (G 6) (G 7) (G 8) (G 9) (G 10) (G 11) (G 12) (G 13) (G 14) (G 15) (G 16) (G 17) (G 18) (G 19) (N 0) (N 1) (N 2) (Q 0) (Q 1) sa ma) (0 + 1) (0 + 6) 39 [(0, .ref (ad 0)), (1, .int (a1)), (2, .ref ((ma (a1).toNatClampNeg)))] [.int ((vX5_carries F G N Q (((Q 1) (a1).toNatClampNeg)) (((G 17) (a1).toNatClampNeg)) (((G 16) (a1).toNatClampNeg))))]
  refine j_if_eq C0 116 dX6_isSound_39 (by decide) (fun (q2 : (vX5_carries F G N Q (((Q 1) (a1).toNatClampNeg)) (((G 17) (a1).toNatClampNeg)) (((G 16) (a1).toNatClampNeg))) = 0) => ?_) (fun (q2 : ¬ ((vX5_carries F G N Q (((Q 1) (a1).toNatClampNeg)) (((G 17) (a1).toNatClampNeg)) (((G 16) (a1).toNatClampNeg))) = 0)) => ?_)
  ·
    refine j_iconst C0 (v := 0) dX6_isSound_116 (by decide) ?_
    refine j_xret (by rw [eX6_isSound, if_pos q1, if_pos q2]) (Nat.le_of_ble_eq_true rfl) (Nat.le_of_ble_eq_true rfl) ?_
    exact j_zretE C0 rfl (by rw [vX6_isSound, if_pos q1, if_pos q2]) (by decide) dX6_isSound_117 (fun H h => ⟨_, _, h⟩)
  ·
    refine j_aload_n C0 dX6_isSound_42 rfl ?_
    refine c_get C0 in_X1 (ci := 4) rfl (21 + 2 * (a1).toNatClampNeg) (fun cel h => ci_m h (a1).toNatClampNeg (by omega)) 2 (by decide) wf_X6_198 (v := .int (((G 17) (a1).toNatClampNeg))) rfl dX6_isSound_43 ?_
    refine j_if_ne C0 71 dX6_isSound_46 (by decide) (fun (q3 : ¬ (((G 17) (a1).toNatClampNeg) = 0)) => ?_) (fun (q3 : ((G 17) (a1).toNatClampNeg) = 0) => ?_)
    ·
      refine j_aload_n C0 dX6_isSound_71 rfl ?_
      refine c_get C0 in_X6 (ci := 9) rfl 0 (fun cel h => ci_0 h) 2 (by decide) wf_X6_26 rfl dX6_isSound_72 ?_
      refine j_aload_n C0 dX6_isSound_75 rfl ?_
      refine c_get C0 in_X1 (ci := 4) rfl (21 + 2 * (a1).toNatClampNeg) (fun cel h => ci_m h (a1).toNatClampNeg (by omega)) 3 (by decide) wf_X6_195 (v := .int (((G 18) (a1).toNatClampNeg))) rfl dX6_isSound_76 ?_
      refine j_aload_n C0 dX6_isSound_79 rfl ?_
      refine c_get C0 in_X1 (ci := 4) rfl (21 + 2 * (a1).toNatClampNeg) (fun cel h => ci_m h (a1).toNatClampNeg (by omega)) 0 (by decide) wf_X6_183 (v := .int (((G 16) (a1).toNatClampNeg))) rfl dX6_isSound_80 ?_
      refine j_iload_n C0 dX6_isSound_83 rfl ?_
      refine j_callVv C0 (k_X0_pilotIsReadyL hsl ad F G N Q sa ma  (((G 18) (a1).toNatClampNeg)) (((G 16) (a1).toNatClampNeg)) (a1)  (by omega) hea1) mv_X0_pilotIsReady wm_X6_172 (c_recv C0 (ci := 3) rfl 3 (fun cel h => ⟨_, ci_3 h⟩)) rfl rfl ⟨Nat.le_of_ble_eq_true rfl, Nat.le_of_ble_eq_true rfl⟩ (Nat.le_of_ble_eq_true rfl) ⟨(Nat.le_of_ble_eq_true rfl), (Nat.le_of_ble_eq_true rfl)⟩ dX6_isSound_84 ?_
      show J p l e _ s m args below meth c A 3 _ (CO D Y A tE ad (F 0) (F 1) (F 2) (G 0) (G 1) (G 2) (G 3) (G 4) (G 5) (G 6) (G 7) (G 8) (G 9) (G 10) (G 11) (G 12) (G 13) (G 14) (G 15) (G 16) (G 17) (G 18) (G 19) (N 0) (N 1) (N 2) (Q 0) (Q 1) sa ma) (0 + 1) (0 + 6) 87 [(0, .ref (ad 0)), (1, .int (a1)), (2, .ref ((ma (a1).toNatClampNeg)))] [.int ((vX0_pilotIsReady F G N Q (((G 18) (a1).toNatClampNeg)) (((G 16) (a1).toNatClampNeg)) ((a1).toNatClampNeg)))]
      refine j_if_eq C0 116 dX6_isSound_87 (by decide) (fun (q4 : (vX0_pilotIsReady F G N Q (((G 18) (a1).toNatClampNeg)) (((G 16) (a1).toNatClampNeg)) ((a1).toNatClampNeg)) = 0) => ?_) (fun (q4 : ¬ ((vX0_pilotIsReady F G N Q (((G 18) (a1).toNatClampNeg)) (((G 16) (a1).toNatClampNeg)) ((a1).toNatClampNeg)) = 0)) => ?_)
      ·
        refine j_iconst C0 (v := 0) dX6_isSound_116 (by decide) ?_
        refine j_xret (by rw [eX6_isSound, if_pos q1, if_neg q2, if_neg q3, if_pos q4]) (Nat.le_of_ble_eq_true rfl) (Nat.le_of_ble_eq_true rfl) ?_
        exact j_zretE C0 rfl (by rw [vX6_isSound, if_pos q1, if_neg q2, if_neg q3, if_pos q4]) (by decide) dX6_isSound_117 (fun H h => ⟨_, _, h⟩)
      ·
        refine j_aload_n C0 dX6_isSound_90 rfl ?_
        refine c_get C0 in_X1 (ci := 4) rfl (21 + 2 * (a1).toNatClampNeg) (fun cel h => ci_m h (a1).toNatClampNeg (by omega)) 4 (by decide) wf_X6_208 (v := .int (((G 19) (a1).toNatClampNeg))) rfl dX6_isSound_91 ?_
        refine j_aload_n C0 dX6_isSound_94 rfl ?_
        refine c_get C0 in_X6 (ci := 9) rfl 0 (fun cel h => ci_0 h) 2 (by decide) wf_X6_26 rfl dX6_isSound_95 ?_
        refine j_aload_n C0 dX6_isSound_98 rfl ?_
        refine c_get C0 in_X1 (ci := 4) rfl (21 + 2 * (a1).toNatClampNeg) (fun cel h => ci_m h (a1).toNatClampNeg (by omega)) 0 (by decide) wf_X6_183 (v := .int (((G 16) (a1).toNatClampNeg))) rfl dX6_isSound_99 ?_
        refine j_iload_n C0 dX6_isSound_102 rfl ?_
        refine j_callVv C0 (k_X0_readyTugsL hsl ad F G N Q sa ma  (((G 16) (a1).toNatClampNeg)) (a1)  (by omega) hea1) mv_X0_readyTugs wm_X6_176 (c_recv C0 (ci := 3) rfl 3 (fun cel h => ⟨_, ci_3 h⟩)) rfl rfl ⟨Nat.le_of_ble_eq_true rfl, Nat.le_of_ble_eq_true rfl⟩ (Nat.le_of_ble_eq_true rfl) ⟨(Nat.le_of_ble_eq_true rfl), (Nat.le_of_ble_eq_true rfl)⟩ dX6_isSound_103 ?_
        show J p l e _ s m args below meth c A 3 _ (CO D Y A tE ad (F 0) (F 1) (F 2) (G 0) (G 1) (G 2) (G 3) (G 4) (G 5) (G 6) (G 7) (G 8) (G 9) (G 10) (G 11) (G 12) (G 13) (G 14) (G 15) (G 16) (G 17) (G 18) (G 19) (N 0) (N 1) (N 2) (Q 0) (Q 1) sa ma) (0 + 1) (0 + 6) 106 [(0, .ref (ad 0)), (1, .int (a1)), (2, .ref ((ma (a1).toNatClampNeg)))] [.int ((vX0_readyTugs F G N Q (((G 16) (a1).toNatClampNeg)) ((a1).toNatClampNeg))), .int (((G 19) (a1).toNatClampNeg))]
        refine j_iconst C0 (v := -1) dX6_isSound_106 (by decide) ?_
        refine j_ixor C0 dX6_isSound_107 ?_
        refine j_iand C0 dX6_isSound_108 ?_
        refine j_if_ne C0 116 dX6_isSound_109 (by decide) (fun (q5 : ¬ ((((G 19) (a1).toNatClampNeg) &&& ((vX0_readyTugs F G N Q (((G 16) (a1).toNatClampNeg)) ((a1).toNatClampNeg)) ^^^ (-1 : Int32))) = 0)) => ?_) (fun (q5 : (((G 19) (a1).toNatClampNeg) &&& ((vX0_readyTugs F G N Q (((G 16) (a1).toNatClampNeg)) ((a1).toNatClampNeg)) ^^^ (-1 : Int32))) = 0) => ?_)
        ·
          refine j_iconst C0 (v := 0) dX6_isSound_116 (by decide) ?_
          refine j_xret (by rw [eX6_isSound, if_pos q1, if_neg q2, if_neg q3, if_neg q4, if_neg q5]) (Nat.le_of_ble_eq_true rfl) (Nat.le_of_ble_eq_true rfl) ?_
          exact j_zretE C0 rfl (by rw [vX6_isSound, if_pos q1, if_neg q2, if_neg q3, if_neg q4, if_neg q5]) (by decide) dX6_isSound_117 (fun H h => ⟨_, _, h⟩)
        ·
          refine j_iconst C0 (v := 1) dX6_isSound_112 (by decide) ?_
          refine j_goto C0 117 dX6_isSound_113 (by decide) ?_
          refine j_xret (by rw [eX6_isSound, if_pos q1, if_neg q2, if_neg q3, if_neg q4, if_pos q5]) (Nat.le_of_ble_eq_true rfl) (Nat.le_of_ble_eq_true rfl) ?_
          exact j_zretE C0 rfl (by rw [vX6_isSound, if_pos q1, if_neg q2, if_neg q3, if_neg q4, if_pos q5]) (by decide) dX6_isSound_117 (fun H h => ⟨_, _, h⟩)
    ·
      refine j_aload_n C0 dX6_isSound_49 rfl ?_
      refine c_get C0 in_X6 (ci := 9) rfl 0 (fun cel h => ci_0 h) 2 (by decide) wf_X6_26 rfl dX6_isSound_50 ?_
      refine j_aload_n C0 dX6_isSound_53 rfl ?_
      refine c_get C0 in_X1 (ci := 4) rfl (21 + 2 * (a1).toNatClampNeg) (fun cel h => ci_m h (a1).toNatClampNeg (by omega)) 1 (by decide) wf_X6_188 (v := .ref ((sa ((Q 1) (a1).toNatClampNeg)))) rfl dX6_isSound_54 ?_
      refine c_get C0 in_X4 (ci := 7) rfl (20 + 2 * ((Q 1) (a1).toNatClampNeg)) (fun cel h => ci_s h ((Q 1) (a1).toNatClampNeg) (hq1 (a1).toNatClampNeg (by omega))) 4 (by decide) wf_X6_202 (v := .int (((G 9) ((Q 1) (a1).toNatClampNeg)))) rfl dX6_isSound_57 ?_
      refine j_aload_n C0 dX6_isSound_60 rfl ?_
      refine c_get C0 in_X1 (ci := 4) rfl (21 + 2 * (a1).toNatClampNeg) (fun cel h => ci_m h (a1).toNatClampNeg (by omega)) 0 (by decide) wf_X6_183 (v := .int (((G 16) (a1).toNatClampNeg))) rfl dX6_isSound_61 ?_
      refine j_iload_n C0 dX6_isSound_64 rfl ?_
      refine j_callVv C0 (k_X0_berthIsFreeL hsl ad F G N Q sa ma  (((G 9) ((Q 1) (a1).toNatClampNeg))) (((G 16) (a1).toNatClampNeg)) (a1)  (by omega) hea1) mv_X0_berthIsFree wm_X6_205 (c_recv C0 (ci := 3) rfl 3 (fun cel h => ⟨_, ci_3 h⟩)) rfl rfl ⟨Nat.le_of_ble_eq_true rfl, Nat.le_of_ble_eq_true rfl⟩ (Nat.le_of_ble_eq_true rfl) ⟨(Nat.le_of_ble_eq_true rfl), (Nat.le_of_ble_eq_true rfl)⟩ dX6_isSound_65 ?_
      show J p l e _ s m args below meth c A 3 _ (CO D Y A tE ad (F 0) (F 1) (F 2) (G 0) (G 1) (G 2) (G 3) (G 4) (G 5) (G 6) (G 7) (G 8) (G 9) (G 10) (G 11) (G 12) (G 13) (G 14) (G 15) (G 16) (G 17) (G 18) (G 19) (N 0) (N 1) (N 2) (Q 0) (Q 1) sa ma) (0 + 1) (0 + 6) 68 [(0, .ref (ad 0)), (1, .int (a1)), (2, .ref ((ma (a1).toNatClampNeg)))] [.int ((vX0_berthIsFree F G N Q (((G 9) ((Q 1) (a1).toNatClampNeg))) (((G 16) (a1).toNatClampNeg)) ((a1).toNatClampNeg)))]
      refine j_if_eq C0 116 dX6_isSound_68 (by decide) (fun (q6 : (vX0_berthIsFree F G N Q (((G 9) ((Q 1) (a1).toNatClampNeg))) (((G 16) (a1).toNatClampNeg)) ((a1).toNatClampNeg)) = 0) => ?_) (fun (q6 : ¬ ((vX0_berthIsFree F G N Q (((G 9) ((Q 1) (a1).toNatClampNeg))) (((G 16) (a1).toNatClampNeg)) ((a1).toNatClampNeg)) = 0)) => ?_)
      ·
        refine j_iconst C0 (v := 0) dX6_isSound_116 (by decide) ?_
        refine j_xret (by rw [eX6_isSound, if_pos q1, if_neg q2, if_pos q3, if_pos q6]) (Nat.le_of_ble_eq_true rfl) (Nat.le_of_ble_eq_true rfl) ?_
        exact j_zretE C0 rfl (by rw [vX6_isSound, if_pos q1, if_neg q2, if_pos q3, if_pos q6]) (by decide) dX6_isSound_117 (fun H h => ⟨_, _, h⟩)
      ·
        refine j_aload_n C0 dX6_isSound_71 rfl ?_
        refine c_get C0 in_X6 (ci := 9) rfl 0 (fun cel h => ci_0 h) 2 (by decide) wf_X6_26 rfl dX6_isSound_72 ?_
        refine j_aload_n C0 dX6_isSound_75 rfl ?_
        refine c_get C0 in_X1 (ci := 4) rfl (21 + 2 * (a1).toNatClampNeg) (fun cel h => ci_m h (a1).toNatClampNeg (by omega)) 3 (by decide) wf_X6_195 (v := .int (((G 18) (a1).toNatClampNeg))) rfl dX6_isSound_76 ?_
        refine j_aload_n C0 dX6_isSound_79 rfl ?_
        refine c_get C0 in_X1 (ci := 4) rfl (21 + 2 * (a1).toNatClampNeg) (fun cel h => ci_m h (a1).toNatClampNeg (by omega)) 0 (by decide) wf_X6_183 (v := .int (((G 16) (a1).toNatClampNeg))) rfl dX6_isSound_80 ?_
        refine j_iload_n C0 dX6_isSound_83 rfl ?_
        refine j_callVv C0 (k_X0_pilotIsReadyL hsl ad F G N Q sa ma  (((G 18) (a1).toNatClampNeg)) (((G 16) (a1).toNatClampNeg)) (a1)  (by omega) hea1) mv_X0_pilotIsReady wm_X6_172 (c_recv C0 (ci := 3) rfl 3 (fun cel h => ⟨_, ci_3 h⟩)) rfl rfl ⟨Nat.le_of_ble_eq_true rfl, Nat.le_of_ble_eq_true rfl⟩ (Nat.le_of_ble_eq_true rfl) ⟨(Nat.le_of_ble_eq_true rfl), (Nat.le_of_ble_eq_true rfl)⟩ dX6_isSound_84 ?_
        show J p l e _ s m args below meth c A 3 _ (CO D Y A tE ad (F 0) (F 1) (F 2) (G 0) (G 1) (G 2) (G 3) (G 4) (G 5) (G 6) (G 7) (G 8) (G 9) (G 10) (G 11) (G 12) (G 13) (G 14) (G 15) (G 16) (G 17) (G 18) (G 19) (N 0) (N 1) (N 2) (Q 0) (Q 1) sa ma) (0 + 1) (0 + 6) 87 [(0, .ref (ad 0)), (1, .int (a1)), (2, .ref ((ma (a1).toNatClampNeg)))] [.int ((vX0_pilotIsReady F G N Q (((G 18) (a1).toNatClampNeg)) (((G 16) (a1).toNatClampNeg)) ((a1).toNatClampNeg)))]
        refine j_if_eq C0 116 dX6_isSound_87 (by decide) (fun (q7 : (vX0_pilotIsReady F G N Q (((G 18) (a1).toNatClampNeg)) (((G 16) (a1).toNatClampNeg)) ((a1).toNatClampNeg)) = 0) => ?_) (fun (q7 : ¬ ((vX0_pilotIsReady F G N Q (((G 18) (a1).toNatClampNeg)) (((G 16) (a1).toNatClampNeg)) ((a1).toNatClampNeg)) = 0)) => ?_)
        ·
          refine j_iconst C0 (v := 0) dX6_isSound_116 (by decide) ?_
          refine j_xret (by rw [eX6_isSound, if_pos q1, if_neg q2, if_pos q3, if_neg q6, if_pos q7]) (Nat.le_of_ble_eq_true rfl) (Nat.le_of_ble_eq_true rfl) ?_
          exact j_zretE C0 rfl (by rw [vX6_isSound, if_pos q1, if_neg q2, if_pos q3, if_neg q6, if_pos q7]) (by decide) dX6_isSound_117 (fun H h => ⟨_, _, h⟩)
        ·
          refine j_aload_n C0 dX6_isSound_90 rfl ?_
          refine c_get C0 in_X1 (ci := 4) rfl (21 + 2 * (a1).toNatClampNeg) (fun cel h => ci_m h (a1).toNatClampNeg (by omega)) 4 (by decide) wf_X6_208 (v := .int (((G 19) (a1).toNatClampNeg))) rfl dX6_isSound_91 ?_
          refine j_aload_n C0 dX6_isSound_94 rfl ?_
          refine c_get C0 in_X6 (ci := 9) rfl 0 (fun cel h => ci_0 h) 2 (by decide) wf_X6_26 rfl dX6_isSound_95 ?_
          refine j_aload_n C0 dX6_isSound_98 rfl ?_
          refine c_get C0 in_X1 (ci := 4) rfl (21 + 2 * (a1).toNatClampNeg) (fun cel h => ci_m h (a1).toNatClampNeg (by omega)) 0 (by decide) wf_X6_183 (v := .int (((G 16) (a1).toNatClampNeg))) rfl dX6_isSound_99 ?_
          refine j_iload_n C0 dX6_isSound_102 rfl ?_
          refine j_callVv C0 (k_X0_readyTugsL hsl ad F G N Q sa ma  (((G 16) (a1).toNatClampNeg)) (a1)  (by omega) hea1) mv_X0_readyTugs wm_X6_176 (c_recv C0 (ci := 3) rfl 3 (fun cel h => ⟨_, ci_3 h⟩)) rfl rfl ⟨Nat.le_of_ble_eq_true rfl, Nat.le_of_ble_eq_true rfl⟩ (Nat.le_of_ble_eq_true rfl) ⟨(Nat.le_of_ble_eq_true rfl), (Nat.le_of_ble_eq_true rfl)⟩ dX6_isSound_103 ?_
          show J p l e _ s m args below meth c A 3 _ (CO D Y A tE ad (F 0) (F 1) (F 2) (G 0) (G 1) (G 2) (G 3) (G 4) (G 5) (G 6) (G 7) (G 8) (G 9) (G 10) (G 11) (G 12) (G 13) (G 14) (G 15) (G 16) (G 17) (G 18) (G 19) (N 0) (N 1) (N 2) (Q 0) (Q 1) sa ma) (0 + 1) (0 + 6) 106 [(0, .ref (ad 0)), (1, .int (a1)), (2, .ref ((ma (a1).toNatClampNeg)))] [.int ((vX0_readyTugs F G N Q (((G 16) (a1).toNatClampNeg)) ((a1).toNatClampNeg))), .int (((G 19) (a1).toNatClampNeg))]
          refine j_iconst C0 (v := -1) dX6_isSound_106 (by decide) ?_
          refine j_ixor C0 dX6_isSound_107 ?_
          refine j_iand C0 dX6_isSound_108 ?_
          refine j_if_ne C0 116 dX6_isSound_109 (by decide) (fun (q8 : ¬ ((((G 19) (a1).toNatClampNeg) &&& ((vX0_readyTugs F G N Q (((G 16) (a1).toNatClampNeg)) ((a1).toNatClampNeg)) ^^^ (-1 : Int32))) = 0)) => ?_) (fun (q8 : (((G 19) (a1).toNatClampNeg) &&& ((vX0_readyTugs F G N Q (((G 16) (a1).toNatClampNeg)) ((a1).toNatClampNeg)) ^^^ (-1 : Int32))) = 0) => ?_)
          ·
            refine j_iconst C0 (v := 0) dX6_isSound_116 (by decide) ?_
            refine j_xret (by rw [eX6_isSound, if_pos q1, if_neg q2, if_pos q3, if_neg q6, if_neg q7, if_neg q8]) (Nat.le_of_ble_eq_true rfl) (Nat.le_of_ble_eq_true rfl) ?_
            exact j_zretE C0 rfl (by rw [vX6_isSound, if_pos q1, if_neg q2, if_pos q3, if_neg q6, if_neg q7, if_neg q8]) (by decide) dX6_isSound_117 (fun H h => ⟨_, _, h⟩)
          ·
            refine j_iconst C0 (v := 1) dX6_isSound_112 (by decide) ?_
            refine j_goto C0 117 dX6_isSound_113 (by decide) ?_
            refine j_xret (by rw [eX6_isSound, if_pos q1, if_neg q2, if_pos q3, if_neg q6, if_neg q7, if_pos q8]) (Nat.le_of_ble_eq_true rfl) (Nat.le_of_ble_eq_true rfl) ?_
            exact j_zretE C0 rfl (by rw [vX6_isSound, if_pos q1, if_neg q2, if_pos q3, if_neg q6, if_neg q7, if_pos q8]) (by decide) dX6_isSound_117 (fun H h => ⟨_, _, h⟩)
