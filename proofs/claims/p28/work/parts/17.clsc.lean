/-! ## HarborTides.payPilot(LHarborTides$Ship;I)V -/
set_option maxRecDepth 100000 in
set_option maxHeartbeats 4000000 in
theorem k_X6_payPilot {l : Launch} (hsl : l.stackTraces = false) {D : va_G} {Y : Nat → ClassId} {A : Nat → Prop} {E : State → Prop} {tE : Nat} (ad : Nat → Nat) (F : Nat → Int32) (G : Nat → Nat → Int32) (N : Nat → Nat) (Q : Nat → Nat → Nat) (sa ma : Nat → Nat) (i2 : Nat) (a2 : Int32) (hi2 : i2 < N 0) (hp : vp_in a2 6) : KM l yX6_payPilot cX6_payPilot 3 none D Y A E 0 0 0 0 [.ref (ad 0), .ref ((sa i2)), .int (a2)] (CR D Y A tE ad F G N Q sa ma) none (CR D Y A tE ad F (hu (hu G 13 (upd (G 13) i2 (((G 13) i2) + (50 : Int32)))) 4 (upd (G 4) (a2).toNatClampNeg ((((G 4) (a2).toNatClampNeg) + (50 : Int32))))) N Q sa ma) := by
  refine KM_of RX6 [(0, .ref (ad 0)), (1, .ref ((sa i2))), (2, .int (a2))] rfl (by decide) hsl (Nat.le_of_ble_eq_true rfl) rfl (lok_of rfl rfl) ?_
  intro p e s m args below meth c C0
  show J p l e _ s m args below meth c A 3 _ (CO D Y A tE ad (F 0) (F 1) (F 2) (G 0) (G 1) (G 2) (G 3) (G 4) (G 5) (G 6) (G 7) (G 8) (G 9) (G 10) (G 11) (G 12) (G 13) (G 14) (G 15) (G 16) (G 17) (G 18) (G 19) (N 0) (N 1) (N 2) (Q 0) (Q 1) sa ma) 0 0 0 [(0, .ref (ad 0)), (1, .ref ((sa i2))), (2, .int (a2))] []
  refine c_fact (fun cel h => ci_f h) (fun hcf => ?_)
  obtain ⟨hn0, hn1, hn2, hq0, hq1⟩ := hcf
  refine j_aload_n C0 dX6_payPilot_0 rfl ?_
  refine j_dup C0 dX6_payPilot_1 rfl ?_
  refine c_get C0 in_X4 (ci := 7) rfl (20 + 2 * i2) (fun cel h => ci_s h i2 hi2) 8 (by decide) wf_X6_211 (v := .int (((G 13) i2))) rfl dX6_payPilot_2 ?_
  refine j_bipush C0 (v := 50) dX6_payPilot_5 (by decide) ?_
  refine j_iadd C0 dX6_payPilot_7 ?_
  refine c_put C0 in_X4 tyX4 tyX4_ok nmX4 (ci := 7) (P := (CIV Y tE ad (F 0) (F 1) (F 2) (G 0) (G 1) (G 2) (G 3) (G 4) (G 5) (G 6) (G 7) (G 8) (G 9) (G 10) (G 11) (G 12) (G 13) (G 14) (G 15) (G 16) (G 17) (G 18) (G 19) (N 0) (N 1) (N 2) (Q 0) (Q 1) sa ma)) (P' := (CIV Y tE ad (F 0) (F 1) (F 2) (G 0) (G 1) (G 2) (G 3) (G 4) (G 5) (G 6) (G 7) (G 8) (G 9) (G 10) (G 11) (G 12) (upd (G 13) i2 (((G 13) i2) + (50 : Int32))) (G 14) (G 15) (G 16) (G 17) (G 18) (G 19) (N 0) (N 1) (N 2) (Q 0) (Q 1) sa ma)) rfl (20 + 2 * i2) (fun cel h => ci_s h i2 hi2) 8 (by decide) wf_X6_211 rfl (tyX4_ok 8 (by decide)) rfl rfl (show 8 < 11 from by decide) dX6_payPilot_8 (fun cel h => cs_8 _ h hi2) ?_
  refine j_aload_n C0 dX6_payPilot_11 rfl ?_
  refine c_get C0 in_X6 (ci := 9) rfl 0 (fun cel h => ci_0 h) 1 (by decide) wf_X6_19 rfl dX6_payPilot_12 ?_
  refine c_get C0 in_X3 (ci := 6) rfl 2 (fun cel h => ci_2 h) 1 (by decide) wf_X6_214 rfl dX6_payPilot_15 ?_
  refine j_iload_n C0 dX6_payPilot_18 rfl ?_
  refine j_dup2 C0 dX6_payPilot_19 rfl rfl ?_
  refine c_iald C0 10 (fun cel h => ci_10 h) (v := ((G 4) (a2).toNatClampNeg)) hp dX6_payPilot_20 rfl ?_
  refine j_bipush C0 (v := 50) dX6_payPilot_21 (by decide) ?_
  refine j_iadd C0 dX6_payPilot_23 ?_
  refine c_iast C0 (P := (CIV Y tE ad (F 0) (F 1) (F 2) (G 0) (G 1) (G 2) (G 3) (G 4) (G 5) (G 6) (G 7) (G 8) (G 9) (G 10) (G 11) (G 12) (upd (G 13) i2 (((G 13) i2) + (50 : Int32))) (G 14) (G 15) (G 16) (G 17) (G 18) (G 19) (N 0) (N 1) (N 2) (Q 0) (Q 1) sa ma)) (P' := (CIV Y tE ad (F 0) (F 1) (F 2) (G 0) (G 1) (G 2) (G 3) (upd (G 4) (a2).toNatClampNeg ((((G 4) (a2).toNatClampNeg) + (50 : Int32)))) (G 5) (G 6) (G 7) (G 8) (G 9) (G 10) (G 11) (G 12) (upd (G 13) i2 (((G 13) i2) + (50 : Int32))) (G 14) (G 15) (G 16) (G 17) (G 18) (G 19) (N 0) (N 1) (N 2) (Q 0) (Q 1) sa ma)) 10 (fun cel h => ci_10 h) hp dX6_payPilot_24 (fun cel h => ca_4 _ h) ?_
  exact j_vret C0 rfl dX6_payPilot_25 (fun H h => h)
/-! ## HarborTides.payTugs(LHarborTides$Ship;)V -/
set_option maxRecDepth 100000 in
set_option maxHeartbeats 4000000 in
theorem k_X6_payTugs {l : Launch} (hsl : l.stackTraces = false) {D : va_G} {Y : Nat → ClassId} {A : Nat → Prop} {E : State → Prop} {tE : Nat} (ad : Nat → Nat) (F : Nat → Int32) (G : Nat → Nat → Int32) (N : Nat → Nat) (Q : Nat → Nat → Nat) (sa ma : Nat → Nat) (i2 : Nat) (hi2 : i2 < N 0)  : KM l yX6_payTugs cX6_payTugs 2 none D Y A E 0 0 0 0 [.ref (ad 0), .ref ((sa i2))] (CR D Y A tE ad F G N Q sa ma) none (CR D Y A tE ad (hu F 1 ((F 1) + ((30 : Int32) * ((G 6) i2)))) (hu G 13 (upd (G 13) i2 (((G 13) i2) + ((30 : Int32) * ((G 6) i2))))) N Q sa ma) := by
  refine KM_of RX6 [(0, .ref (ad 0)), (1, .ref ((sa i2)))] rfl (by decide) hsl (Nat.le_of_ble_eq_true rfl) rfl (lok_of rfl rfl) ?_
  intro p e s m args below meth c C0
  show J p l e _ s m args below meth c A 2 _ (CO D Y A tE ad (F 0) (F 1) (F 2) (G 0) (G 1) (G 2) (G 3) (G 4) (G 5) (G 6) (G 7) (G 8) (G 9) (G 10) (G 11) (G 12) (G 13) (G 14) (G 15) (G 16) (G 17) (G 18) (G 19) (N 0) (N 1) (N 2) (Q 0) (Q 1) sa ma) 0 0 0 [(0, .ref (ad 0)), (1, .ref ((sa i2)))] []
  refine c_fact (fun cel h => ci_f h) (fun hcf => ?_)
  obtain ⟨hn0, hn1, hn2, hq0, hq1⟩ := hcf
  refine j_aload_n C0 dX6_payTugs_0 rfl ?_
  refine j_dup C0 dX6_payTugs_1 rfl ?_
  refine c_get C0 in_X4 (ci := 7) rfl (20 + 2 * i2) (fun cel h => ci_s h i2 hi2) 8 (by decide) wf_X6_211 (v := .int (((G 13) i2))) rfl dX6_payTugs_2 ?_
  refine j_bipush C0 (v := 30) dX6_payTugs_5 (by decide) ?_
  refine j_aload_n C0 dX6_payTugs_7 rfl ?_
  refine c_get C0 in_X4 (ci := 7) rfl (20 + 2 * i2) (fun cel h => ci_s h i2 hi2) 1 (by decide) wf_X6_225 (v := .int (((G 6) i2))) rfl dX6_payTugs_8 ?_
  refine j_imul C0 dX6_payTugs_11 ?_
  refine j_iadd C0 dX6_payTugs_12 ?_
  refine c_put C0 in_X4 tyX4 tyX4_ok nmX4 (ci := 7) (P := (CIV Y tE ad (F 0) (F 1) (F 2) (G 0) (G 1) (G 2) (G 3) (G 4) (G 5) (G 6) (G 7) (G 8) (G 9) (G 10) (G 11) (G 12) (G 13) (G 14) (G 15) (G 16) (G 17) (G 18) (G 19) (N 0) (N 1) (N 2) (Q 0) (Q 1) sa ma)) (P' := (CIV Y tE ad (F 0) (F 1) (F 2) (G 0) (G 1) (G 2) (G 3) (G 4) (G 5) (G 6) (G 7) (G 8) (G 9) (G 10) (G 11) (G 12) (upd (G 13) i2 (((G 13) i2) + ((30 : Int32) * ((G 6) i2)))) (G 14) (G 15) (G 16) (G 17) (G 18) (G 19) (N 0) (N 1) (N 2) (Q 0) (Q 1) sa ma)) rfl (20 + 2 * i2) (fun cel h => ci_s h i2 hi2) 8 (by decide) wf_X6_211 rfl (tyX4_ok 8 (by decide)) rfl rfl (show 8 < 11 from by decide) dX6_payTugs_13 (fun cel h => cs_8 _ h hi2) ?_
  refine j_aload_n C0 dX6_payTugs_16 rfl ?_
  refine j_dup C0 dX6_payTugs_17 rfl ?_
  refine c_get C0 in_X6 (ci := 9) rfl 0 (fun cel h => ci_0 h) 6 (by decide) wf_X6_48 (v := .int ((F 1))) rfl dX6_payTugs_18 ?_
  refine j_bipush C0 (v := 30) dX6_payTugs_21 (by decide) ?_
  refine j_aload_n C0 dX6_payTugs_23 rfl ?_
  refine c_get C0 in_X4 (ci := 7) rfl (20 + 2 * i2) (fun cel h => ci_s h i2 hi2) 1 (by decide) wf_X6_225 (v := .int (((G 6) i2))) rfl dX6_payTugs_24 ?_
  refine j_imul C0 dX6_payTugs_27 ?_
  refine j_iadd C0 dX6_payTugs_28 ?_
  refine c_put C0 in_X6 tyX6 tyX6_ok nmX6 (ci := 9) (P := (CIV Y tE ad (F 0) (F 1) (F 2) (G 0) (G 1) (G 2) (G 3) (G 4) (G 5) (G 6) (G 7) (G 8) (G 9) (G 10) (G 11) (G 12) (upd (G 13) i2 (((G 13) i2) + ((30 : Int32) * ((G 6) i2)))) (G 14) (G 15) (G 16) (G 17) (G 18) (G 19) (N 0) (N 1) (N 2) (Q 0) (Q 1) sa ma)) (P' := (CIV Y tE ad (F 0) ((F 1) + ((30 : Int32) * ((G 6) i2))) (F 2) (G 0) (G 1) (G 2) (G 3) (G 4) (G 5) (G 6) (G 7) (G 8) (G 9) (G 10) (G 11) (G 12) (upd (G 13) i2 (((G 13) i2) + ((30 : Int32) * ((G 6) i2)))) (G 14) (G 15) (G 16) (G 17) (G 18) (G 19) (N 0) (N 1) (N 2) (Q 0) (Q 1) sa ma)) rfl 0 (fun cel h => ci_0 h) 6 (by decide) wf_X6_48 rfl (tyX6_ok 6 (by decide)) rfl rfl (show 6 < 8 from by decide) dX6_payTugs_29 (fun cel h => cx_1 _ h) ?_
  exact j_vret C0 rfl dX6_payTugs_32 (fun H h => h)
/-! ## HarborTides.payPort(LHarborTides$Ship;I)V -/
set_option maxRecDepth 100000 in
set_option maxHeartbeats 4000000 in
theorem k_X6_payPort {l : Launch} (hsl : l.stackTraces = false) {D : va_G} {Y : Nat → ClassId} {A : Nat → Prop} {E : State → Prop} {tE : Nat} (ad : Nat → Nat) (F : Nat → Int32) (G : Nat → Nat → Int32) (N : Nat → Nat) (Q : Nat → Nat → Nat) (sa ma : Nat → Nat) (i2 : Nat) (a2 : Int32) (hi2 : i2 < N 0)  : KM l yX6_payPort cX6_payPort 3 none D Y A E 0 0 0 0 [.ref (ad 0), .ref ((sa i2)), .int (a2)] (CR D Y A tE ad F G N Q sa ma) none (CR D Y A tE ad (hu F 2 ((F 2) + a2)) (hu G 13 (upd (G 13) i2 (((G 13) i2) + a2))) N Q sa ma) := by
  refine KM_of RX6 [(0, .ref (ad 0)), (1, .ref ((sa i2))), (2, .int (a2))] rfl (by decide) hsl (Nat.le_of_ble_eq_true rfl) rfl (lok_of rfl rfl) ?_
  intro p e s m args below meth c C0
  show J p l e _ s m args below meth c A 3 _ (CO D Y A tE ad (F 0) (F 1) (F 2) (G 0) (G 1) (G 2) (G 3) (G 4) (G 5) (G 6) (G 7) (G 8) (G 9) (G 10) (G 11) (G 12) (G 13) (G 14) (G 15) (G 16) (G 17) (G 18) (G 19) (N 0) (N 1) (N 2) (Q 0) (Q 1) sa ma) 0 0 0 [(0, .ref (ad 0)), (1, .ref ((sa i2))), (2, .int (a2))] []
  refine c_fact (fun cel h => ci_f h) (fun hcf => ?_)
  obtain ⟨hn0, hn1, hn2, hq0, hq1⟩ := hcf
  refine j_aload_n C0 dX6_payPort_0 rfl ?_
  refine j_dup C0 dX6_payPort_1 rfl ?_
  refine c_get C0 in_X4 (ci := 7) rfl (20 + 2 * i2) (fun cel h => ci_s h i2 hi2) 8 (by decide) wf_X6_211 (v := .int (((G 13) i2))) rfl dX6_payPort_2 ?_
  refine j_iload_n C0 dX6_payPort_5 rfl ?_
  refine j_iadd C0 dX6_payPort_6 ?_
  refine c_put C0 in_X4 tyX4 tyX4_ok nmX4 (ci := 7) (P := (CIV Y tE ad (F 0) (F 1) (F 2) (G 0) (G 1) (G 2) (G 3) (G 4) (G 5) (G 6) (G 7) (G 8) (G 9) (G 10) (G 11) (G 12) (G 13) (G 14) (G 15) (G 16) (G 17) (G 18) (G 19) (N 0) (N 1) (N 2) (Q 0) (Q 1) sa ma)) (P' := (CIV Y tE ad (F 0) (F 1) (F 2) (G 0) (G 1) (G 2) (G 3) (G 4) (G 5) (G 6) (G 7) (G 8) (G 9) (G 10) (G 11) (G 12) (upd (G 13) i2 (((G 13) i2) + a2)) (G 14) (G 15) (G 16) (G 17) (G 18) (G 19) (N 0) (N 1) (N 2) (Q 0) (Q 1) sa ma)) rfl (20 + 2 * i2) (fun cel h => ci_s h i2 hi2) 8 (by decide) wf_X6_211 rfl (tyX4_ok 8 (by decide)) rfl rfl (show 8 < 11 from by decide) dX6_payPort_7 (fun cel h => cs_8 _ h hi2) ?_
  refine j_aload_n C0 dX6_payPort_10 rfl ?_
  refine j_dup C0 dX6_payPort_11 rfl ?_
  refine c_get C0 in_X6 (ci := 9) rfl 0 (fun cel h => ci_0 h) 7 (by decide) wf_X6_51 (v := .int ((F 2))) rfl dX6_payPort_12 ?_
  refine j_iload_n C0 dX6_payPort_15 rfl ?_
  refine j_iadd C0 dX6_payPort_16 ?_
  refine c_put C0 in_X6 tyX6 tyX6_ok nmX6 (ci := 9) (P := (CIV Y tE ad (F 0) (F 1) (F 2) (G 0) (G 1) (G 2) (G 3) (G 4) (G 5) (G 6) (G 7) (G 8) (G 9) (G 10) (G 11) (G 12) (upd (G 13) i2 (((G 13) i2) + a2)) (G 14) (G 15) (G 16) (G 17) (G 18) (G 19) (N 0) (N 1) (N 2) (Q 0) (Q 1) sa ma)) (P' := (CIV Y tE ad (F 0) (F 1) ((F 2) + a2) (G 0) (G 1) (G 2) (G 3) (G 4) (G 5) (G 6) (G 7) (G 8) (G 9) (G 10) (G 11) (G 12) (upd (G 13) i2 (((G 13) i2) + a2)) (G 14) (G 15) (G 16) (G 17) (G 18) (G 19) (N 0) (N 1) (N 2) (Q 0) (Q 1) sa ma)) rfl 0 (fun cel h => ci_0 h) 7 (by decide) wf_X6_51 rfl (tyX6_ok 7 (by decide)) rfl rfl (show 7 < 8 from by decide) dX6_payPort_17 (fun cel h => cx_2 _ h) ?_
  exact j_vret C0 rfl dX6_payPort_20 (fun H h => h)
/-! ## HarborTides.loseTide(LHarborTides$Ship;)V -/
def bX6_loseTide_12 (F : Nat → Int32) (G : Nat → Nat → Int32) (N : Nat → Nat) (Q : Nat → Nat → Nat) (i2 : Nat) (j12 : Nat) (v12 : (Nat → Int32) × (Nat → Int32)) : (Nat → Int32) × (Nat → Int32) := match v12 with | (v12_0, v12_1) => ((upd v12_0 (((G 3) (nI j12).toNatClampNeg)).toNatClampNeg (((v12_0 (((G 3) (nI j12).toNatClampNeg)).toNatClampNeg) + (50 : Int32)))), (upd v12_1 i2 ((v12_1 i2) + (50 : Int32))))
def sX6_loseTide (F : Nat → Int32) (G : Nat → Nat → Int32) (N : Nat → Nat) (Q : Nat → Nat → Nat) (i2 : Nat) : (Nat → Int32) × (Nat → Int32) × (Nat → Int32) := ((nf (bX6_loseTide_12 F G N Q i2) ((G 4), (G 13)) (2)).1, (nf (bX6_loseTide_12 F G N Q i2) ((G 4), (G 13)) (2)).2, (upd (G 14) i2 (((G 14) i2) + (1 : Int32))))
set_option maxRecDepth 100000 in
set_option maxHeartbeats 4000000 in
theorem k_X6_loseTide {l : Launch} (hsl : l.stackTraces = false) {D : va_G} {Y : Nat → ClassId} {A : Nat → Prop} {E : State → Prop} {tE : Nat} (ad : Nat → Nat) (F : Nat → Int32) (G : Nat → Nat → Int32) (N : Nat → Nat) (Q : Nat → Nat → Nat) (sa ma : Nat → Nat) (i2 : Nat) (hi2 : i2 < N 0) (hr : ∀ j, j < 6 → vp_in (G 3 j) 6) : KM l yX6_loseTide cX6_loseTide 3 none D Y A E 1 22 0 0 [.ref (ad 0), .ref ((sa i2))] (CR D Y A tE ad F G N Q sa ma) none (CR D Y A tE ad F (hu (hu (hu G 4 (sX6_loseTide F G N Q i2).1) 13 (sX6_loseTide F G N Q i2).2.1) 14 (sX6_loseTide F G N Q i2).2.2) N Q sa ma) := by
  refine KM_of RX6 [(0, .ref (ad 0)), (1, .ref ((sa i2)))] rfl (by decide) hsl (Nat.le_of_ble_eq_true rfl) rfl (lok_of rfl rfl) ?_
  intro p e s m args below meth c C0
  show J p l e _ s m args below meth c A 3 _ (CO D Y A tE ad (F 0) (F 1) (F 2) (G 0) (G 1) (G 2) (G 3) (G 4) (G 5) (G 6) (G 7) (G 8) (G 9) (G 10) (G 11) (G 12) (G 13) (G 14) (G 15) (G 16) (G 17) (G 18) (G 19) (N 0) (N 1) (N 2) (Q 0) (Q 1) sa ma) 0 0 0 [(0, .ref (ad 0)), (1, .ref ((sa i2)))] []
  refine c_fact (fun cel h => ci_f h) (fun hcf => ?_)
  obtain ⟨hn0, hn1, hn2, hq0, hq1⟩ := hcf
  refine j_aload_n C0 dX6_loseTide_0 rfl ?_
  refine j_dup C0 dX6_loseTide_1 rfl ?_
  refine c_get C0 in_X4 (ci := 7) rfl (20 + 2 * i2) (fun cel h => ci_s h i2 hi2) 9 (by decide) wf_X6_217 (v := .int (((G 14) i2))) rfl dX6_loseTide_2 ?_
  refine j_iconst C0 (v := 1) dX6_loseTide_5 (by decide) ?_
  refine j_iadd C0 dX6_loseTide_6 ?_
  refine c_put C0 in_X4 tyX4 tyX4_ok nmX4 (ci := 7) (P := (CIV Y tE ad (F 0) (F 1) (F 2) (G 0) (G 1) (G 2) (G 3) (G 4) (G 5) (G 6) (G 7) (G 8) (G 9) (G 10) (G 11) (G 12) (G 13) (G 14) (G 15) (G 16) (G 17) (G 18) (G 19) (N 0) (N 1) (N 2) (Q 0) (Q 1) sa ma)) (P' := (CIV Y tE ad (F 0) (F 1) (F 2) (G 0) (G 1) (G 2) (G 3) (G 4) (G 5) (G 6) (G 7) (G 8) (G 9) (G 10) (G 11) (G 12) (G 13) (upd (G 14) i2 (((G 14) i2) + (1 : Int32))) (G 15) (G 16) (G 17) (G 18) (G 19) (N 0) (N 1) (N 2) (Q 0) (Q 1) sa ma)) rfl (20 + 2 * i2) (fun cel h => ci_s h i2 hi2) 9 (by decide) wf_X6_217 rfl (tyX4_ok 9 (by decide)) rfl rfl (show 9 < 11 from by decide) dX6_loseTide_7 (fun cel h => cs_9 _ h hi2) ?_
  refine j_iconst C0 (v := 0) dX6_loseTide_10 (by decide) ?_
  refine j_istore_n C0 (L' := [(0, .ref (ad 0)), (1, .ref ((sa i2))), (2, .int ((0 : Int32)))]) dX6_loseTide_11 (by decide) rfl ?_
  refine hb_lp (P := fun (j : Nat) (v : (Nat → Int32) × (Nat → Int32)) => J p l e _ s m args below meth c A 3 _ (CO D Y A tE ad (F 0) (F 1) (F 2) (G 0) (G 1) (G 2) (G 3) v.1 (G 5) (G 6) (G 7) (G 8) (G 9) (G 10) (G 11) (G 12) v.2 (upd (G 14) i2 (((G 14) i2) + (1 : Int32))) (G 15) (G 16) (G 17) (G 18) (G 19) (N 0) (N 1) (N 2) (Q 0) (Q 1) sa ma) 0 0 12 [(0, .ref (ad 0)), (1, .ref ((sa i2))), (2, .int (nI j))] []) (bX6_loseTide_12 F G N Q i2) ((G 4), (G 13)) (2) ?_ ?_
  ·
    intro j12 hj12 K12
    generalize nf (bX6_loseTide_12 F G N Q i2) ((G 4), (G 13)) j12 = v12 at K12 ⊢
    obtain ⟨v12_0, v12_1⟩ := v12
    show J p l e _ s m args below meth c A 3 _ (CO D Y A tE ad (F 0) (F 1) (F 2) (G 0) (G 1) (G 2) (G 3) v12_0 (G 5) (G 6) (G 7) (G 8) (G 9) (G 10) (G 11) (G 12) v12_1 (upd (G 14) i2 (((G 14) i2) + (1 : Int32))) (G 15) (G 16) (G 17) (G 18) (G 19) (N 0) (N 1) (N 2) (Q 0) (Q 1) sa ma) 0 0 12 [(0, .ref (ad 0)), (1, .ref ((sa i2))), (2, .int (nI j12))] []
    replace K12 : J p l e _ s m args below meth c A 3 _ (CO D Y A tE ad (F 0) (F 1) (F 2) (G 0) (G 1) (G 2) (G 3) (bX6_loseTide_12 F G N Q i2 j12 (v12_0, v12_1)).1 (G 5) (G 6) (G 7) (G 8) (G 9) (G 10) (G 11) (G 12) (bX6_loseTide_12 F G N Q i2 j12 (v12_0, v12_1)).2 (upd (G 14) i2 (((G 14) i2) + (1 : Int32))) (G 15) (G 16) (G 17) (G 18) (G 19) (N 0) (N 1) (N 2) (Q 0) (Q 1) sa ma) 0 0 12 [(0, .ref (ad 0)), (1, .ref ((sa i2))), (2, .int (nI (j12 + 1)))] [] := K12
    refine j_iload_n C0 dX6_loseTide_12 rfl ?_
    refine j_iconst C0 (v := 2) dX6_loseTide_13 (by decide) ?_
    refine j_icmp_ge C0 37 dX6_loseTide_14 (by decide) (fun z => absurd z (cl_lt (show (2 : Int32).toNatClampNeg = 2 by decide +kernel) hj12)) (fun _ => ?_)
    refine j_aload_n C0 dX6_loseTide_17 rfl ?_
    refine j_aload_n C0 dX6_loseTide_18 rfl ?_
    refine j_aload_n C0 dX6_loseTide_19 rfl ?_
    refine c_get C0 in_X6 (ci := 9) rfl 0 (fun cel h => ci_0 h) 1 (by decide) wf_X6_19 rfl dX6_loseTide_20 ?_
    refine c_get C0 in_X3 (ci := 6) rfl 2 (fun cel h => ci_2 h) 0 (by decide) wf_X6_169 rfl dX6_loseTide_23 ?_
    refine j_iload_n C0 dX6_loseTide_26 rfl ?_
    refine c_iald C0 9 (fun cel h => ci_9 h) (v := ((G 3) (nI j12).toNatClampNeg)) (vp_nI (by omega) (by decide)) dX6_loseTide_27 rfl ?_
    refine j_callVn C0 (k_X6_payPilot hsl ad F (hu (hu (hu G 14 (upd (G 14) i2 (((G 14) i2) + (1 : Int32)))) 4 v12_0) 13 v12_1) N Q sa ma  (i2) (((G 3) (nI j12).toNatClampNeg)) hi2 (vp_at (N := 6) (P := fun z => vp_in z 6) (g := G 3) (j := j12) hr (by omega) (by decide))) mv_X6_payPilot wm_X6_259 (c_recv C0 (ci := 9) rfl 0 (fun cel h => ⟨_, ci_0 h⟩)) rfl rfl ⟨Nat.le_of_ble_eq_true rfl, Nat.le_of_ble_eq_true rfl⟩ (Nat.le_of_ble_eq_true rfl) ⟨Nat.le_refl _, Nat.le_refl _⟩ dX6_loseTide_28 ?_
    show J p l e _ s m args below meth c A 3 _ (CO D Y A tE ad (F 0) (F 1) (F 2) (G 0) (G 1) (G 2) (G 3) (upd v12_0 (((G 3) (nI j12).toNatClampNeg)).toNatClampNeg (((v12_0 (((G 3) (nI j12).toNatClampNeg)).toNatClampNeg) + (50 : Int32)))) (G 5) (G 6) (G 7) (G 8) (G 9) (G 10) (G 11) (G 12) (upd v12_1 i2 ((v12_1 i2) + (50 : Int32))) (upd (G 14) i2 (((G 14) i2) + (1 : Int32))) (G 15) (G 16) (G 17) (G 18) (G 19) (N 0) (N 1) (N 2) (Q 0) (Q 1) sa ma) 0 0 31 [(0, .ref (ad 0)), (1, .ref ((sa i2))), (2, .int (nI j12))] []
    refine j_iinc C0 (v := nI (j12 + 1)) (L' := [(0, .ref (ad 0)), (1, .ref ((sa i2))), (2, .int (nI (j12 + 1)))]) dX6_loseTide_31 rfl (nI_inc j12) (by decide) rfl ?_
    refine j_goto C0 12 dX6_loseTide_34 (by decide) ?_
    exact K12
  ·
    show J p l e _ s m args below meth c A 3 _ (CO D Y A tE ad (F 0) (F 1) (F 2) (G 0) (G 1) (G 2) (G 3) (nf (bX6_loseTide_12 F G N Q i2) ((G 4), (G 13)) (2)).1 (G 5) (G 6) (G 7) (G 8) (G 9) (G 10) (G 11) (G 12) (nf (bX6_loseTide_12 F G N Q i2) ((G 4), (G 13)) (2)).2 (upd (G 14) i2 (((G 14) i2) + (1 : Int32))) (G 15) (G 16) (G 17) (G 18) (G 19) (N 0) (N 1) (N 2) (Q 0) (Q 1) sa ma) 0 0 12 [(0, .ref (ad 0)), (1, .ref ((sa i2))), (2, .int (nI ((2))))] []
    refine j_iload_n C0 dX6_loseTide_12 rfl ?_
    refine j_iconst C0 (v := 2) dX6_loseTide_13 (by decide) ?_
    refine j_icmp_ge C0 37 dX6_loseTide_14 (by decide) (fun _ => ?_) (fun z => absurd (cl_le (show (2 : Int32).toNatClampNeg = 2 by decide +kernel)) z)
    exact j_vret C0 rfl dX6_loseTide_37 (fun H h => by rw [sX6_loseTide]; exact h)
/-! ## HarborTides.berthIsFreeNow(I)Z -/
def bX6_berthIsFreeNow_2 (F : Nat → Int32) (G : Nat → Nat → Int32) (N : Nat → Nat) (Q : Nat → Nat → Nat) (a1 : Int32) (j2 : Nat) (v2 : Unit) : (Unit) ⊕ (Unit) := (if ((G 9) j2) = a1 then (if ((G 10) j2) = 0 then (.inl ()) else (if ((G 10) j2) = (4 : Int32) then (.inl ()) else (.inr ()))) else (.inl ()))
def vX6_berthIsFreeNow (F : Nat → Int32) (G : Nat → Nat → Int32) (N : Nat → Nat) (Q : Nat → Nat → Nat) (a1 : Int32) : Int32 := (bkE (bk (bX6_berthIsFreeNow_2 F G N Q a1) () ((N 0))) (fun w6 => (1 : Int32)) (fun r8 => (0 : Int32)))
set_option maxRecDepth 100000 in
set_option maxHeartbeats 4000000 in
theorem k_X6_berthIsFreeNow {l : Launch} (hsl : l.stackTraces = false) {D : va_G} {Y : Nat → ClassId} {A : Nat → Prop} {E : State → Prop} {tE : Nat} (ad : Nat → Nat) (F : Nat → Int32) (G : Nat → Nat → Int32) (N : Nat → Nat) (Q : Nat → Nat → Nat) (sa ma : Nat → Nat) (a1 : Int32)   : KM l yX6_berthIsFreeNow cX6_berthIsFreeNow 4 (some .boolean) D Y A E 3 90 0 0 [.ref (ad 0), .int (a1)] (CR D Y A tE ad F G N Q sa ma) (some (.int (vX6_berthIsFreeNow F G N Q a1))) (CR D Y A tE ad F G N Q sa ma) := by
  refine KM_of RX6 [(0, .ref (ad 0)), (1, .int (a1))] rfl (by decide) hsl (Nat.le_of_ble_eq_true rfl) rfl (lok_of rfl rfl) ?_
  intro p e s m args below meth c C0
  show J p l e _ s m args below meth c A 4 _ (CO D Y A tE ad (F 0) (F 1) (F 2) (G 0) (G 1) (G 2) (G 3) (G 4) (G 5) (G 6) (G 7) (G 8) (G 9) (G 10) (G 11) (G 12) (G 13) (G 14) (G 15) (G 16) (G 17) (G 18) (G 19) (N 0) (N 1) (N 2) (Q 0) (Q 1) sa ma) 0 0 0 [(0, .ref (ad 0)), (1, .int (a1))] []
  refine c_fact (fun cel h => ci_f h) (fun hcf => ?_)
  obtain ⟨hn0, hn1, hn2, hq0, hq1⟩ := hcf
  refine j_iconst C0 (v := 0) dX6_berthIsFreeNow_0 (by decide) ?_
  refine j_istore_n C0 (L' := [(0, .ref (ad 0)), (1, .int (a1)), (2, .int ((0 : Int32)))]) dX6_berthIsFreeNow_1 (by decide) rfl ?_
  refine hb_bk _ _ (P := fun R0 Q0 (j : Nat) (v : Unit) => J p l e R0 s m args below meth c A 4 Q0 (CO D Y A tE ad (F 0) (F 1) (F 2) (G 0) (G 1) (G 2) (G 3) (G 4) (G 5) (G 6) (G 7) (G 8) (G 9) (G 10) (G 11) (G 12) (G 13) (G 14) (G 15) (G 16) (G 17) (G 18) (G 19) (N 0) (N 1) (N 2) (Q 0) (Q 1) sa ma) 0 0 2 [(0, .ref (ad 0)), (1, .int (a1)), (2, .int (nI j))] []) (RR := fun R0 Q0 => (fun (r0 : Unit) => J p l e R0 s m args below meth c A 4 Q0 (CO D Y A tE ad (F 0) (F 1) (F 2) (G 0) (G 1) (G 2) (G 3) (G 4) (G 5) (G 6) (G 7) (G 8) (G 9) (G 10) (G 11) (G 12) (G 13) (G 14) (G 15) (G 16) (G 17) (G 18) (G 19) (N 0) (N 1) (N 2) (Q 0) (Q 1) sa ma) 0 0 48 [(0, .ref (ad 0)), (1, .int (a1))] [])) (bX6_berthIsFreeNow_2 F G N Q a1) () ((N 0)) ?_ ?_
  rotate_left
  ·
    intro j2 hj2 v2 hv2 K2
    clear hv2
    show J p l e _ s m args below meth c A 4 _ (CO D Y A tE ad (F 0) (F 1) (F 2) (G 0) (G 1) (G 2) (G 3) (G 4) (G 5) (G 6) (G 7) (G 8) (G 9) (G 10) (G 11) (G 12) (G 13) (G 14) (G 15) (G 16) (G 17) (G 18) (G 19) (N 0) (N 1) (N 2) (Q 0) (Q 1) sa ma) 0 0 2 [(0, .ref (ad 0)), (1, .int (a1)), (2, .int (nI j2))] []
    refine j_iload_n C0 dX6_berthIsFreeNow_2 rfl ?_
    refine j_aload_n C0 dX6_berthIsFreeNow_3 rfl ?_
    refine c_get C0 in_X6 (ci := 9) rfl 0 (fun cel h => ci_0 h) 3 (by decide) wf_X6_33 rfl dX6_berthIsFreeNow_4 ?_
    refine j_callVv C0 (kc_size hsl (fun cel h => ci_S h)) mv_Jx4a65c_size_8abf5 wm_X6_96 (c_recv C0 (ci := 2) rfl 4 (fun cel h => ci_rS h)) rfl rfl ⟨Nat.le_of_ble_eq_true rfl, Nat.le_of_ble_eq_true rfl⟩ (Nat.le_of_ble_eq_true rfl) ⟨Nat.le_refl _, Nat.le_refl _⟩ dX6_berthIsFreeNow_7 ?_
    refine j_icmp_ge C0 56 dX6_berthIsFreeNow_10 (by decide) (fun z => absurd z (nI_ge hj2 (by omega))) (fun _ => ?_)
    refine j_aload_n C0 dX6_berthIsFreeNow_13 rfl ?_
    refine c_get C0 in_X6 (ci := 9) rfl 0 (fun cel h => ci_0 h) 3 (by decide) wf_X6_33 rfl dX6_berthIsFreeNow_14 ?_
    refine j_iload_n C0 dX6_berthIsFreeNow_17 rfl ?_
    refine j_callVv C0 (kc_get hsl (fun cel h => ci_S h) (by omega) (i := j2) (by omega)) mv_Jx4a65c_get_915e3 wm_X6_238 (c_recv C0 (ci := 2) rfl 4 (fun cel h => ci_rS h)) rfl rfl ⟨Nat.le_of_ble_eq_true rfl, Nat.le_of_ble_eq_true rfl⟩ (Nat.le_of_ble_eq_true rfl) ⟨Nat.le_refl _, Nat.le_refl _⟩ dX6_berthIsFreeNow_18 ?_
    show J p l e _ s m args below meth c A 4 _ (CO D Y A tE ad (F 0) (F 1) (F 2) (G 0) (G 1) (G 2) (G 3) (G 4) (G 5) (G 6) (G 7) (G 8) (G 9) (G 10) (G 11) (G 12) (G 13) (G 14) (G 15) (G 16) (G 17) (G 18) (G 19) (N 0) (N 1) (N 2) (Q 0) (Q 1) sa ma) 0 0 21 [(0, .ref (ad 0)), (1, .int (a1)), (2, .int (nI j2))] [.ref ((sa j2))]
    refine c_castS C0 (ci := 7) rfl (20 + 2 * j2) (fun cel h => ⟨_, ci_s h j2 (by omega)⟩) wc_X6_101 dX6_berthIsFreeNow_21 ?_
    refine j_astore_n C0 (L' := [(0, .ref (ad 0)), (1, .int (a1)), (2, .int (nI j2)), (3, .ref ((sa j2)))]) dX6_berthIsFreeNow_24 (by decide) rfl ?_
    refine j_aload_n C0 dX6_berthIsFreeNow_25 rfl ?_
    refine c_get C0 in_X4 (ci := 7) rfl (20 + 2 * j2) (fun cel h => ci_s h j2 (by omega)) 4 (by decide) wf_X6_202 (v := .int (((G 9) j2))) rfl dX6_berthIsFreeNow_26 ?_
    refine j_iload_n C0 dX6_berthIsFreeNow_29 rfl ?_
    refine j_icmp_ne C0 50 dX6_berthIsFreeNow_30 (by decide) (fun (q2 : ¬ (((G 9) j2) = a1)) => ?_) (fun (q2 : ((G 9) j2) = a1) => ?_)
    ·
      refine j_iinc C0 (v := nI (j2 + 1)) (L' := [(0, .ref (ad 0)), (1, .int (a1)), (2, .int (nI (j2 + 1))), (3, .ref ((sa j2)))]) dX6_berthIsFreeNow_50 rfl (nI_inc j2) (by decide) rfl ?_
      refine j_goto C0 2 dX6_berthIsFreeNow_53 (by decide) ?_
      rw [bX6_berthIsFreeNow_2, if_neg q2] at K2
      refine j_locals (L' := [(0, .ref (ad 0)), (1, .int (a1)), (2, .int (nI (j2 + 1)))]) (fun q hq => by simp only [List.mem_cons, List.mem_nil_iff, or_false] at hq ⊢; rcases hq with rfl | rfl | rfl <;> simp) (lok_of rfl rfl) ?_
      exact K2
    ·
      refine j_aload_n C0 dX6_berthIsFreeNow_33 rfl ?_
      refine c_get C0 in_X4 (ci := 7) rfl (20 + 2 * j2) (fun cel h => ci_s h j2 (by omega)) 5 (by decide) wf_X6_138 (v := .int (((G 10) j2))) rfl dX6_berthIsFreeNow_34 ?_
      refine j_if_eq C0 50 dX6_berthIsFreeNow_37 (by decide) (fun (q3 : ((G 10) j2) = 0) => ?_) (fun (q3 : ¬ (((G 10) j2) = 0)) => ?_)
      ·
        refine j_iinc C0 (v := nI (j2 + 1)) (L' := [(0, .ref (ad 0)), (1, .int (a1)), (2, .int (nI (j2 + 1))), (3, .ref ((sa j2)))]) dX6_berthIsFreeNow_50 rfl (nI_inc j2) (by decide) rfl ?_
        refine j_goto C0 2 dX6_berthIsFreeNow_53 (by decide) ?_
        rw [bX6_berthIsFreeNow_2, if_pos q2, if_pos q3] at K2
        refine j_locals (L' := [(0, .ref (ad 0)), (1, .int (a1)), (2, .int (nI (j2 + 1)))]) (fun q hq => by simp only [List.mem_cons, List.mem_nil_iff, or_false] at hq ⊢; rcases hq with rfl | rfl | rfl <;> simp) (lok_of rfl rfl) ?_
        exact K2
      ·
        refine j_aload_n C0 dX6_berthIsFreeNow_40 rfl ?_
        refine c_get C0 in_X4 (ci := 7) rfl (20 + 2 * j2) (fun cel h => ci_s h j2 (by omega)) 5 (by decide) wf_X6_138 (v := .int (((G 10) j2))) rfl dX6_berthIsFreeNow_41 ?_
        refine j_iconst C0 (v := 4) dX6_berthIsFreeNow_44 (by decide) ?_
        refine j_icmp_eq C0 50 dX6_berthIsFreeNow_45 (by decide) (fun (q4 : ((G 10) j2) = (4 : Int32)) => ?_) (fun (q4 : ¬ (((G 10) j2) = (4 : Int32))) => ?_)
        ·
          refine j_iinc C0 (v := nI (j2 + 1)) (L' := [(0, .ref (ad 0)), (1, .int (a1)), (2, .int (nI (j2 + 1))), (3, .ref ((sa j2)))]) dX6_berthIsFreeNow_50 rfl (nI_inc j2) (by decide) rfl ?_
          refine j_goto C0 2 dX6_berthIsFreeNow_53 (by decide) ?_
          rw [bX6_berthIsFreeNow_2, if_pos q2, if_neg q3, if_pos q4] at K2
          refine j_locals (L' := [(0, .ref (ad 0)), (1, .int (a1)), (2, .int (nI (j2 + 1)))]) (fun q hq => by simp only [List.mem_cons, List.mem_nil_iff, or_false] at hq ⊢; rcases hq with rfl | rfl | rfl <;> simp) (lok_of rfl rfl) ?_
          exact K2
        ·
          rw [bX6_berthIsFreeNow_2, if_pos q2, if_neg q3, if_neg q4] at K2
          refine j_locals (L' := [(0, .ref (ad 0)), (1, .int (a1))]) (fun q hq => by simp only [List.mem_cons, List.mem_nil_iff, or_false] at hq ⊢; rcases hq with rfl | rfl <;> simp) (lok_of rfl rfl) ?_
          exact K2
  cases hb5 : bk (bX6_berthIsFreeNow_2 F G N Q a1) () ((N 0)) with
  | inl w6 =>
    show J p l e _ s m args below meth c A 4 _ (CO D Y A tE ad (F 0) (F 1) (F 2) (G 0) (G 1) (G 2) (G 3) (G 4) (G 5) (G 6) (G 7) (G 8) (G 9) (G 10) (G 11) (G 12) (G 13) (G 14) (G 15) (G 16) (G 17) (G 18) (G 19) (N 0) (N 1) (N 2) (Q 0) (Q 1) sa ma) 0 0 2 [(0, .ref (ad 0)), (1, .int (a1)), (2, .int (nI (((N 0)))))] []
    refine j_iload_n C0 dX6_berthIsFreeNow_2 rfl ?_
    refine j_aload_n C0 dX6_berthIsFreeNow_3 rfl ?_
    refine c_get C0 in_X6 (ci := 9) rfl 0 (fun cel h => ci_0 h) 3 (by decide) wf_X6_33 rfl dX6_berthIsFreeNow_4 ?_
    refine j_callVv C0 (kc_size hsl (fun cel h => ci_S h)) mv_Jx4a65c_size_8abf5 wm_X6_96 (c_recv C0 (ci := 2) rfl 4 (fun cel h => ci_rS h)) rfl rfl ⟨Nat.le_of_ble_eq_true rfl, Nat.le_of_ble_eq_true rfl⟩ (Nat.le_of_ble_eq_true rfl) ⟨Nat.le_refl _, Nat.le_refl _⟩ dX6_berthIsFreeNow_7 ?_
    refine j_icmp_ge C0 56 dX6_berthIsFreeNow_10 (by decide) (fun _ => ?_) (fun z => absurd (nI_le (Nat.le_refl _) (by omega)) z)
    refine j_iconst C0 (v := 1) dX6_berthIsFreeNow_56 (by decide) ?_
    exact j_zretE C0 rfl (by rw [vX6_berthIsFreeNow, hb5, bkE_inl]) (by decide) dX6_berthIsFreeNow_57 (fun H h => h)
  | inr r8 =>
    show J p l e _ s m args below meth c A 4 _ (CO D Y A tE ad (F 0) (F 1) (F 2) (G 0) (G 1) (G 2) (G 3) (G 4) (G 5) (G 6) (G 7) (G 8) (G 9) (G 10) (G 11) (G 12) (G 13) (G 14) (G 15) (G 16) (G 17) (G 18) (G 19) (N 0) (N 1) (N 2) (Q 0) (Q 1) sa ma) 0 0 48 [(0, .ref (ad 0)), (1, .int (a1))] []
    refine j_iconst C0 (v := 0) dX6_berthIsFreeNow_48 (by decide) ?_
    exact j_zretE C0 rfl (by rw [vX6_berthIsFreeNow, hb5, bkE_inr]) (by decide) dX6_berthIsFreeNow_49 (fun H h => h)
/-! ## HarborTides.firstReadyPilot()I -/
def bX6_firstReadyPilot_2 (F : Nat → Int32) (G : Nat → Nat → Int32) (N : Nat → Nat) (Q : Nat → Nat → Nat) (j2 : Nat) (v2 : Unit) : (Unit) ⊕ (Int32) := (if (vX0_pilotIsReady F G N Q (((G 3) (nI j2).toNatClampNeg)) ((F 0)) ((N 1))) = 0 then (.inl ()) else (.inr (((G 3) (nI j2).toNatClampNeg))))
def vX6_firstReadyPilot (F : Nat → Int32) (G : Nat → Nat → Int32) (N : Nat → Nat) (Q : Nat → Nat → Nat) : Int32 := (bkE (bk (bX6_firstReadyPilot_2 F G N Q) () (6)) (fun w4 => (-1 : Int32)) (fun r6 => r6))
set_option maxRecDepth 100000 in
set_option maxHeartbeats 4000000 in
theorem k_X6_firstReadyPilot {l : Launch} (hsl : l.stackTraces = false) {D : va_G} {Y : Nat → ClassId} {A : Nat → Prop} {E : State → Prop} {tE : Nat} (ad : Nat → Nat) (F : Nat → Int32) (G : Nat → Nat → Int32) (N : Nat → Nat) (Q : Nat → Nat → Nat) (sa ma : Nat → Nat)    : KM l yX6_firstReadyPilot cX6_firstReadyPilot 3 (some .int) D Y A E 4 117 0 0 [.ref (ad 0)] (CR D Y A tE ad F G N Q sa ma) (some (.int (vX6_firstReadyPilot F G N Q))) (CR D Y A tE ad F G N Q sa ma) := by
  refine KM_of RX6 [(0, .ref (ad 0))] rfl (by decide) hsl (Nat.le_of_ble_eq_true rfl) rfl (lok_of rfl rfl) ?_
  intro p e s m args below meth c C0
  show J p l e _ s m args below meth c A 3 _ (CO D Y A tE ad (F 0) (F 1) (F 2) (G 0) (G 1) (G 2) (G 3) (G 4) (G 5) (G 6) (G 7) (G 8) (G 9) (G 10) (G 11) (G 12) (G 13) (G 14) (G 15) (G 16) (G 17) (G 18) (G 19) (N 0) (N 1) (N 2) (Q 0) (Q 1) sa ma) 0 0 0 [(0, .ref (ad 0))] []
  refine c_fact (fun cel h => ci_f h) (fun hcf => ?_)
  obtain ⟨hn0, hn1, hn2, hq0, hq1⟩ := hcf
  refine j_iconst C0 (v := 0) dX6_firstReadyPilot_0 (by decide) ?_
  refine j_istore_n C0 (L' := [(0, .ref (ad 0)), (1, .int ((0 : Int32)))]) dX6_firstReadyPilot_1 (by decide) rfl ?_
  refine hb_bk _ _ (P := fun R0 Q0 (j : Nat) (v : Unit) => J p l e R0 s m args below meth c A 3 Q0 (CO D Y A tE ad (F 0) (F 1) (F 2) (G 0) (G 1) (G 2) (G 3) (G 4) (G 5) (G 6) (G 7) (G 8) (G 9) (G 10) (G 11) (G 12) (G 13) (G 14) (G 15) (G 16) (G 17) (G 18) (G 19) (N 0) (N 1) (N 2) (Q 0) (Q 1) sa ma) 0 0 2 [(0, .ref (ad 0)), (1, .int (nI j))] []) (RR := fun R0 Q0 => (fun (r0 : Int32) => J p l e R0 s m args below meth c A 3 Q0 (CO D Y A tE ad (F 0) (F 1) (F 2) (G 0) (G 1) (G 2) (G 3) (G 4) (G 5) (G 6) (G 7) (G 8) (G 9) (G 10) (G 11) (G 12) (G 13) (G 14) (G 15) (G 16) (G 17) (G 18) (G 19) (N 0) (N 1) (N 2) (Q 0) (Q 1) sa ma) 0 0 40 [(0, .ref (ad 0)), (2, .int (r0))] [])) (bX6_firstReadyPilot_2 F G N Q) () (6) ?_ ?_
  rotate_left
  ·
    intro j2 hj2 v2 hv2 K2
    clear hv2
    show J p l e _ s m args below meth c A 3 _ (CO D Y A tE ad (F 0) (F 1) (F 2) (G 0) (G 1) (G 2) (G 3) (G 4) (G 5) (G 6) (G 7) (G 8) (G 9) (G 10) (G 11) (G 12) (G 13) (G 14) (G 15) (G 16) (G 17) (G 18) (G 19) (N 0) (N 1) (N 2) (Q 0) (Q 1) sa ma) 0 0 2 [(0, .ref (ad 0)), (1, .int (nI j2))] []
    refine j_iload_n C0 dX6_firstReadyPilot_2 rfl ?_
    refine j_bipush C0 (v := 6) dX6_firstReadyPilot_3 (by decide) ?_
    refine j_icmp_ge C0 48 dX6_firstReadyPilot_5 (by decide) (fun z => absurd z (cl_lt (show (6 : Int32).toNatClampNeg = 6 by decide +kernel) hj2)) (fun _ => ?_)
    refine j_aload_n C0 dX6_firstReadyPilot_8 rfl ?_
    refine c_get C0 in_X6 (ci := 9) rfl 0 (fun cel h => ci_0 h) 1 (by decide) wf_X6_19 rfl dX6_firstReadyPilot_9 ?_
    refine c_get C0 in_X3 (ci := 6) rfl 2 (fun cel h => ci_2 h) 0 (by decide) wf_X6_169 rfl dX6_firstReadyPilot_12 ?_
    refine j_iload_n C0 dX6_firstReadyPilot_15 rfl ?_
    refine c_iald C0 9 (fun cel h => ci_9 h) (v := ((G 3) (nI j2).toNatClampNeg)) (vp_nI (by omega) (by decide)) dX6_firstReadyPilot_16 rfl ?_
    refine j_istore_n C0 (L' := [(0, .ref (ad 0)), (1, .int (nI j2)), (2, .int (((G 3) (nI j2).toNatClampNeg)))]) dX6_firstReadyPilot_17 (by decide) rfl ?_
    refine j_aload_n C0 dX6_firstReadyPilot_18 rfl ?_
    refine c_get C0 in_X6 (ci := 9) rfl 0 (fun cel h => ci_0 h) 2 (by decide) wf_X6_26 rfl dX6_firstReadyPilot_19 ?_
    refine j_iload_n C0 dX6_firstReadyPilot_22 rfl ?_
    refine j_aload_n C0 dX6_firstReadyPilot_23 rfl ?_
    refine c_get C0 in_X6 (ci := 9) rfl 0 (fun cel h => ci_0 h) 5 (by decide) wf_X6_44 (v := .int ((F 0))) rfl dX6_firstReadyPilot_24 ?_
    refine j_aload_n C0 dX6_firstReadyPilot_27 rfl ?_
    refine c_get C0 in_X6 (ci := 9) rfl 0 (fun cel h => ci_0 h) 2 (by decide) wf_X6_26 rfl dX6_firstReadyPilot_28 ?_
    refine j_callVv C0 (k_X0_count hsl ad F G N Q sa ma    ) mv_X0_count wm_X6_62 (c_recv C0 (ci := 3) rfl 3 (fun cel h => ⟨_, ci_3 h⟩)) rfl rfl ⟨Nat.le_of_ble_eq_true rfl, Nat.le_of_ble_eq_true rfl⟩ (Nat.le_of_ble_eq_true rfl) ⟨Nat.le_refl _, Nat.le_refl _⟩ dX6_firstReadyPilot_31 ?_
    show J p l e _ s m args below meth c A 3 _ (CO D Y A tE ad (F 0) (F 1) (F 2) (G 0) (G 1) (G 2) (G 3) (G 4) (G 5) (G 6) (G 7) (G 8) (G 9) (G 10) (G 11) (G 12) (G 13) (G 14) (G 15) (G 16) (G 17) (G 18) (G 19) (N 0) (N 1) (N 2) (Q 0) (Q 1) sa ma) 0 0 34 [(0, .ref (ad 0)), (1, .int (nI j2)), (2, .int (((G 3) (nI j2).toNatClampNeg)))] [.int (nI (N 1)), .int ((F 0)), .int (((G 3) (nI j2).toNatClampNeg)), .ref (ad 3)]
    refine j_callVv C0 (k_X0_pilotIsReady hsl ad F G N Q sa ma  (((G 3) (nI j2).toNatClampNeg)) ((F 0)) ((N 1))  (Nat.le_refl _)) mv_X0_pilotIsReady wm_X6_172 (c_recv C0 (ci := 3) rfl 3 (fun cel h => ⟨_, ci_3 h⟩)) rfl rfl ⟨Nat.le_of_ble_eq_true rfl, Nat.le_of_ble_eq_true rfl⟩ (Nat.le_of_ble_eq_true rfl) ⟨Nat.le_refl _, Nat.le_refl _⟩ dX6_firstReadyPilot_34 ?_
    show J p l e _ s m args below meth c A 3 _ (CO D Y A tE ad (F 0) (F 1) (F 2) (G 0) (G 1) (G 2) (G 3) (G 4) (G 5) (G 6) (G 7) (G 8) (G 9) (G 10) (G 11) (G 12) (G 13) (G 14) (G 15) (G 16) (G 17) (G 18) (G 19) (N 0) (N 1) (N 2) (Q 0) (Q 1) sa ma) 0 0 37 [(0, .ref (ad 0)), (1, .int (nI j2)), (2, .int (((G 3) (nI j2).toNatClampNeg)))] [.int ((vX0_pilotIsReady F G N Q (((G 3) (nI j2).toNatClampNeg)) ((F 0)) ((N 1))))]
    refine j_if_eq C0 42 dX6_firstReadyPilot_37 (by decide) (fun (q2 : (vX0_pilotIsReady F G N Q (((G 3) (nI j2).toNatClampNeg)) ((F 0)) ((N 1))) = 0) => ?_) (fun (q2 : ¬ ((vX0_pilotIsReady F G N Q (((G 3) (nI j2).toNatClampNeg)) ((F 0)) ((N 1))) = 0)) => ?_)
    ·
      refine j_iinc C0 (v := nI (j2 + 1)) (L' := [(0, .ref (ad 0)), (1, .int (nI (j2 + 1))), (2, .int (((G 3) (nI j2).toNatClampNeg)))]) dX6_firstReadyPilot_42 rfl (nI_inc j2) (by decide) rfl ?_
      refine j_goto C0 2 dX6_firstReadyPilot_45 (by decide) ?_
      rw [bX6_firstReadyPilot_2, if_pos q2] at K2
      refine j_locals (L' := [(0, .ref (ad 0)), (1, .int (nI (j2 + 1)))]) (fun q hq => by simp only [List.mem_cons, List.mem_nil_iff, or_false] at hq ⊢; rcases hq with rfl | rfl <;> simp) (lok_of rfl rfl) ?_
      exact K2
    ·
      rw [bX6_firstReadyPilot_2, if_neg q2] at K2
      refine j_locals (L' := [(0, .ref (ad 0)), (2, .int (((G 3) (nI j2).toNatClampNeg)))]) (fun q hq => by simp only [List.mem_cons, List.mem_nil_iff, or_false] at hq ⊢; rcases hq with rfl | rfl <;> simp) (lok_of rfl rfl) ?_
      exact K2
  cases hb3 : bk (bX6_firstReadyPilot_2 F G N Q) () (6) with
  | inl w4 =>
    show J p l e _ s m args below meth c A 3 _ (CO D Y A tE ad (F 0) (F 1) (F 2) (G 0) (G 1) (G 2) (G 3) (G 4) (G 5) (G 6) (G 7) (G 8) (G 9) (G 10) (G 11) (G 12) (G 13) (G 14) (G 15) (G 16) (G 17) (G 18) (G 19) (N 0) (N 1) (N 2) (Q 0) (Q 1) sa ma) 0 0 2 [(0, .ref (ad 0)), (1, .int (nI ((6))))] []
    refine j_iload_n C0 dX6_firstReadyPilot_2 rfl ?_
    refine j_bipush C0 (v := 6) dX6_firstReadyPilot_3 (by decide) ?_
    refine j_icmp_ge C0 48 dX6_firstReadyPilot_5 (by decide) (fun _ => ?_) (fun z => absurd (cl_le (show (6 : Int32).toNatClampNeg = 6 by decide +kernel)) z)
    refine j_iconst C0 (v := -1) dX6_firstReadyPilot_48 (by decide) ?_
    exact j_iretE C0 rfl (by rw [vX6_firstReadyPilot, hb3, bkE_inl]) dX6_firstReadyPilot_49 (fun H h => h)
  | inr r6 =>
    show J p l e _ s m args below meth c A 3 _ (CO D Y A tE ad (F 0) (F 1) (F 2) (G 0) (G 1) (G 2) (G 3) (G 4) (G 5) (G 6) (G 7) (G 8) (G 9) (G 10) (G 11) (G 12) (G 13) (G 14) (G 15) (G 16) (G 17) (G 18) (G 19) (N 0) (N 1) (N 2) (Q 0) (Q 1) sa ma) 0 0 40 [(0, .ref (ad 0)), (2, .int (r6))] []
    refine j_iload_n C0 dX6_firstReadyPilot_40 rfl ?_
    exact j_iretE C0 rfl (by rw [vX6_firstReadyPilot, hb3, bkE_inr]) dX6_firstReadyPilot_41 (fun H h => h)
/-! ## HarborTides.lowestOf(II)I -/
def bX6_lowestOf_7 (a1 : Int32) (a2 : Int32) (j7 : Nat) (v7 : Int32 × Int32) : (Int32 × Int32) ⊕ (Int32 × Int32) := match v7 with | (v7_0, v7_1) => (if v7_1 ≤ 0 then (.inr (v7_0, v7_1)) else (if (a1 &&& ((1 : Int32) <<< (nI j7 &&& 31))) = 0 then (.inl (v7_0, v7_1)) else (.inl ((v7_0 ||| ((1 : Int32) <<< (nI j7 &&& 31))), (v7_1 + Int32.ofInt (-1))))))
def vX6_lowestOf (a1 : Int32) (a2 : Int32) : Int32 := (bkE (bk (bX6_lowestOf_7 a1 a2) ((0 : Int32), a2) (6)) (fun w5 => (if w5.2 = 0 then w5.1 else (0 : Int32))) (fun r8 => (if r8.2 = 0 then r8.1 else (0 : Int32))))
set_option maxRecDepth 100000 in
set_option maxHeartbeats 4000000 in
theorem k_X6_lowestOf {l : Launch} (hsl : l.stackTraces = false) {D : va_G} {Y : Nat → ClassId} {A : Nat → Prop} {E : State → Prop} {Ω : Heap → Prop} (a1 : Int32) (a2 : Int32)   : KM l yX6_lowestOf cX6_lowestOf 5 (some .int) D Y A E 0 0 0 0 [.int (a1), .int (a2)] Ω (some (.int (vX6_lowestOf a1 a2))) Ω := by
  refine KM_of RX6 [(0, .int (a1)), (1, .int (a2))] rfl (by decide) hsl (Nat.le_of_ble_eq_true rfl) rfl (lok_of rfl rfl) ?_
  intro p e s m args below meth c C0
  refine j_iconst C0 (v := 0) dX6_lowestOf_0 (by decide) ?_
  refine j_istore_n C0 (L' := [(0, .int (a1)), (1, .int (a2)), (2, .int ((0 : Int32)))]) dX6_lowestOf_1 (by decide) rfl ?_
  refine j_iload_n C0 dX6_lowestOf_2 rfl ?_
  refine j_istore_n C0 (L' := [(0, .int (a1)), (1, .int (a2)), (2, .int ((0 : Int32))), (3, .int (a2))]) dX6_lowestOf_3 (by decide) rfl ?_
  refine j_iconst C0 (v := 0) dX6_lowestOf_4 (by decide) ?_
  refine j_istore C0 (L' := [(0, .int (a1)), (1, .int (a2)), (2, .int ((0 : Int32))), (3, .int (a2)), (4, .int ((0 : Int32)))]) dX6_lowestOf_5 (by decide) rfl ?_
  refine hb_bk _ _ (P := fun R0 Q0 (j : Nat) (v : Int32 × Int32) => J p l e R0 s m args below meth c A 5 Q0 Ω 0 0 7 [(0, .int (a1)), (1, .int (a2)), (2, .int (v.1)), (3, .int (v.2)), (4, .int (nI j))] []) (RR := fun R0 Q0 => (fun (r0 : Int32 × Int32) => J p l e R0 s m args below meth c A 5 Q0 Ω 0 0 43 [(0, .int (a1)), (1, .int (a2)), (2, .int (r0.1)), (3, .int (r0.2))] [])) (bX6_lowestOf_7 a1 a2) ((0 : Int32), a2) (6) ?_ ?_
  rotate_left
  ·
    intro j7 hj7 v7 hv7 K7
    clear hv7
    obtain ⟨v7_0, v7_1⟩ := v7
    show J p l e _ s m args below meth c A 5 _ Ω 0 0 7 [(0, .int (a1)), (1, .int (a2)), (2, .int (v7_0)), (3, .int (v7_1)), (4, .int (nI j7))] []
    refine j_iload C0 dX6_lowestOf_7 rfl ?_
    refine j_bipush C0 (v := 6) dX6_lowestOf_9 (by decide) ?_
    refine j_icmp_ge C0 43 dX6_lowestOf_11 (by decide) (fun z => absurd z (cl_lt (show (6 : Int32).toNatClampNeg = 6 by decide +kernel) hj7)) (fun _ => ?_)
    refine j_iload_n C0 dX6_lowestOf_14 rfl ?_
    refine j_if_le C0 43 dX6_lowestOf_15 (by decide) (fun (q2 : v7_1 ≤ 0) => ?_) (fun (q2 : ¬ (v7_1 ≤ 0)) => ?_)
    ·
      rw [bX6_lowestOf_7, if_pos q2] at K7
      refine j_locals (L' := [(0, .int (a1)), (1, .int (a2)), (2, .int (v7_0)), (3, .int (v7_1))]) (fun q hq => by simp only [List.mem_cons, List.mem_nil_iff, or_false] at hq ⊢; rcases hq with rfl | rfl | rfl | rfl <;> simp) (lok_of rfl rfl) ?_
      exact K7
    ·
      refine j_iload_n C0 dX6_lowestOf_18 rfl ?_
      refine j_iconst C0 (v := 1) dX6_lowestOf_19 (by decide) ?_
      refine j_iload C0 dX6_lowestOf_20 rfl ?_
      refine j_ishl C0 dX6_lowestOf_22 ?_
      refine j_iand C0 dX6_lowestOf_23 ?_
      refine j_if_eq C0 37 dX6_lowestOf_24 (by decide) (fun (q3 : (a1 &&& ((1 : Int32) <<< (nI j7 &&& 31))) = 0) => ?_) (fun (q3 : ¬ ((a1 &&& ((1 : Int32) <<< (nI j7 &&& 31))) = 0)) => ?_)
      ·
        refine j_iinc C0 (v := nI (j7 + 1)) (L' := [(0, .int (a1)), (1, .int (a2)), (2, .int (v7_0)), (3, .int (v7_1)), (4, .int (nI (j7 + 1)))]) dX6_lowestOf_37 rfl (nI_inc j7) (by decide) rfl ?_
        refine j_goto C0 7 dX6_lowestOf_40 (by decide) ?_
        rw [bX6_lowestOf_7, if_neg q2, if_pos q3] at K7
        exact K7
      ·
        refine j_iload_n C0 dX6_lowestOf_27 rfl ?_
        refine j_iconst C0 (v := 1) dX6_lowestOf_28 (by decide) ?_
        refine j_iload C0 dX6_lowestOf_29 rfl ?_
        refine j_ishl C0 dX6_lowestOf_31 ?_
        refine j_ior C0 dX6_lowestOf_32 ?_
        refine j_istore_n C0 (L' := [(0, .int (a1)), (1, .int (a2)), (2, .int ((v7_0 ||| ((1 : Int32) <<< (nI j7 &&& 31))))), (3, .int (v7_1)), (4, .int (nI j7))]) dX6_lowestOf_33 (by decide) rfl ?_
        refine j_iinc C0 (v := (v7_1 + Int32.ofInt (-1))) (L' := [(0, .int (a1)), (1, .int (a2)), (2, .int ((v7_0 ||| ((1 : Int32) <<< (nI j7 &&& 31))))), (3, .int ((v7_1 + Int32.ofInt (-1)))), (4, .int (nI j7))]) dX6_lowestOf_34 rfl rfl (by decide) rfl ?_
        refine j_iinc C0 (v := nI (j7 + 1)) (L' := [(0, .int (a1)), (1, .int (a2)), (2, .int ((v7_0 ||| ((1 : Int32) <<< (nI j7 &&& 31))))), (3, .int ((v7_1 + Int32.ofInt (-1)))), (4, .int (nI (j7 + 1)))]) dX6_lowestOf_37 rfl (nI_inc j7) (by decide) rfl ?_
        refine j_goto C0 7 dX6_lowestOf_40 (by decide) ?_
        rw [bX6_lowestOf_7, if_neg q2, if_neg q3] at K7
        exact K7
  cases hb4 : bk (bX6_lowestOf_7 a1 a2) ((0 : Int32), a2) (6) with
  | inl w5 =>
    show J p l e _ s m args below meth c A 5 _ Ω 0 0 7 [(0, .int (a1)), (1, .int (a2)), (2, .int (w5.1)), (3, .int (w5.2)), (4, .int (nI ((6))))] []
    refine j_iload C0 dX6_lowestOf_7 rfl ?_
    refine j_bipush C0 (v := 6) dX6_lowestOf_9 (by decide) ?_
    refine j_icmp_ge C0 43 dX6_lowestOf_11 (by decide) (fun _ => ?_) (fun z => absurd (cl_le (show (6 : Int32).toNatClampNeg = 6 by decide +kernel)) z)
    refine j_iload_n C0 dX6_lowestOf_43 rfl ?_
    refine j_if_ne C0 51 dX6_lowestOf_44 (by decide) (fun (q7 : ¬ (w5.2 = 0)) => ?_) (fun (q7 : w5.2 = 0) => ?_)
    ·
      refine j_iconst C0 (v := 0) dX6_lowestOf_51 (by decide) ?_
      exact j_iretE C0 rfl (by rw [vX6_lowestOf, hb4, bkE_inl, if_neg q7]) dX6_lowestOf_52 (fun H h => h)
    ·
      refine j_iload_n C0 dX6_lowestOf_47 rfl ?_
      refine j_goto C0 52 dX6_lowestOf_48 (by decide) ?_
      exact j_iretE C0 rfl (by rw [vX6_lowestOf, hb4, bkE_inl, if_pos q7]) dX6_lowestOf_52 (fun H h => h)
  | inr r8 =>
    show J p l e _ s m args below meth c A 5 _ Ω 0 0 43 [(0, .int (a1)), (1, .int (a2)), (2, .int (r8.1)), (3, .int (r8.2))] []
    refine j_iload_n C0 dX6_lowestOf_43 rfl ?_
    refine j_if_ne C0 51 dX6_lowestOf_44 (by decide) (fun (q9 : ¬ (r8.2 = 0)) => ?_) (fun (q9 : r8.2 = 0) => ?_)
    ·
      refine j_iconst C0 (v := 0) dX6_lowestOf_51 (by decide) ?_
      exact j_iretE C0 rfl (by rw [vX6_lowestOf, hb4, bkE_inr, if_neg q9]) dX6_lowestOf_52 (fun H h => h)
    ·
      refine j_iload_n C0 dX6_lowestOf_47 rfl ?_
      refine j_goto C0 52 dX6_lowestOf_48 (by decide) ?_
      exact j_iretE C0 rfl (by rw [vX6_lowestOf, hb4, bkE_inr, if_pos q9]) dX6_lowestOf_52 (fun H h => h)
/-! ## HarborTides.endMoves()V -/
def bX6_endMoves_2 (F : Nat → Int32) (G : Nat → Nat → Int32) (N : Nat → Nat) (Q : Nat → Nat → Nat) (j2 : Nat) (v2 : (Nat → Int32)) : (Nat → Int32) := ((sX4_endMove F (hu G 10 v2) N Q (j2) ((F 0))))
def sX6_endMoves (F : Nat → Int32) (G : Nat → Nat → Int32) (N : Nat → Nat) (Q : Nat → Nat → Nat) : (Nat → Int32) := ((nf (bX6_endMoves_2 F G N Q) ((G 10)) ((N 0))))
set_option maxRecDepth 100000 in
set_option maxHeartbeats 4000000 in
theorem k_X6_endMoves {l : Launch} (hsl : l.stackTraces = false) {D : va_G} {Y : Nat → ClassId} {A : Nat → Prop} {E : State → Prop} {tE : Nat} (ad : Nat → Nat) (F : Nat → Int32) (G : Nat → Nat → Int32) (N : Nat → Nat) (Q : Nat → Nat → Nat) (sa ma : Nat → Nat)    : KM l yX6_endMoves cX6_endMoves 2 none D Y A E 3 90 0 0 [.ref (ad 0)] (CR D Y A tE ad F G N Q sa ma) none (CR D Y A tE ad F (hu G 10 (sX6_endMoves F G N Q)) N Q sa ma) := by
  refine KM_of RX6 [(0, .ref (ad 0))] rfl (by decide) hsl (Nat.le_of_ble_eq_true rfl) rfl (lok_of rfl rfl) ?_
  intro p e s m args below meth c C0
  show J p l e _ s m args below meth c A 2 _ (CO D Y A tE ad (F 0) (F 1) (F 2) (G 0) (G 1) (G 2) (G 3) (G 4) (G 5) (G 6) (G 7) (G 8) (G 9) (G 10) (G 11) (G 12) (G 13) (G 14) (G 15) (G 16) (G 17) (G 18) (G 19) (N 0) (N 1) (N 2) (Q 0) (Q 1) sa ma) 0 0 0 [(0, .ref (ad 0))] []
  refine c_fact (fun cel h => ci_f h) (fun hcf => ?_)
  obtain ⟨hn0, hn1, hn2, hq0, hq1⟩ := hcf
  refine j_iconst C0 (v := 0) dX6_endMoves_0 (by decide) ?_
  refine j_istore_n C0 (L' := [(0, .ref (ad 0)), (1, .int ((0 : Int32)))]) dX6_endMoves_1 (by decide) rfl ?_
  refine hb_lp (P := fun (j : Nat) (v : (Nat → Int32)) => J p l e _ s m args below meth c A 2 _ (CO D Y A tE ad (F 0) (F 1) (F 2) (G 0) (G 1) (G 2) (G 3) (G 4) (G 5) (G 6) (G 7) (G 8) (G 9) v (G 11) (G 12) (G 13) (G 14) (G 15) (G 16) (G 17) (G 18) (G 19) (N 0) (N 1) (N 2) (Q 0) (Q 1) sa ma) 0 0 2 [(0, .ref (ad 0)), (1, .int (nI j))] []) (bX6_endMoves_2 F G N Q) ((G 10)) ((N 0)) ?_ ?_
  ·
    intro j2 hj2 K2
    generalize nf (bX6_endMoves_2 F G N Q) ((G 10)) j2 = v2 at K2 ⊢
    show J p l e _ s m args below meth c A 2 _ (CO D Y A tE ad (F 0) (F 1) (F 2) (G 0) (G 1) (G 2) (G 3) (G 4) (G 5) (G 6) (G 7) (G 8) (G 9) v2 (G 11) (G 12) (G 13) (G 14) (G 15) (G 16) (G 17) (G 18) (G 19) (N 0) (N 1) (N 2) (Q 0) (Q 1) sa ma) 0 0 2 [(0, .ref (ad 0)), (1, .int (nI j2))] []
    replace K2 : J p l e _ s m args below meth c A 2 _ (CO D Y A tE ad (F 0) (F 1) (F 2) (G 0) (G 1) (G 2) (G 3) (G 4) (G 5) (G 6) (G 7) (G 8) (G 9) (bX6_endMoves_2 F G N Q j2 v2) (G 11) (G 12) (G 13) (G 14) (G 15) (G 16) (G 17) (G 18) (G 19) (N 0) (N 1) (N 2) (Q 0) (Q 1) sa ma) 0 0 2 [(0, .ref (ad 0)), (1, .int (nI (j2 + 1)))] [] := K2
    refine j_iload_n C0 dX6_endMoves_2 rfl ?_
    refine j_aload_n C0 dX6_endMoves_3 rfl ?_
    refine c_get C0 in_X6 (ci := 9) rfl 0 (fun cel h => ci_0 h) 3 (by decide) wf_X6_33 rfl dX6_endMoves_4 ?_
    refine j_callVv C0 (kc_size hsl (fun cel h => ci_S h)) mv_Jx4a65c_size_8abf5 wm_X6_96 (c_recv C0 (ci := 2) rfl 4 (fun cel h => ci_rS h)) rfl rfl ⟨Nat.le_of_ble_eq_true rfl, Nat.le_of_ble_eq_true rfl⟩ (Nat.le_of_ble_eq_true rfl) ⟨Nat.le_refl _, Nat.le_refl _⟩ dX6_endMoves_7 ?_
    refine j_icmp_ge C0 37 dX6_endMoves_10 (by decide) (fun z => absurd z (nI_ge hj2 (by omega))) (fun _ => ?_)
    refine j_aload_n C0 dX6_endMoves_13 rfl ?_
    refine c_get C0 in_X6 (ci := 9) rfl 0 (fun cel h => ci_0 h) 3 (by decide) wf_X6_33 rfl dX6_endMoves_14 ?_
    refine j_iload_n C0 dX6_endMoves_17 rfl ?_
    refine j_callVv C0 (kc_get hsl (fun cel h => ci_S h) (by omega) (i := j2) (by omega)) mv_Jx4a65c_get_915e3 wm_X6_238 (c_recv C0 (ci := 2) rfl 4 (fun cel h => ci_rS h)) rfl rfl ⟨Nat.le_of_ble_eq_true rfl, Nat.le_of_ble_eq_true rfl⟩ (Nat.le_of_ble_eq_true rfl) ⟨Nat.le_refl _, Nat.le_refl _⟩ dX6_endMoves_18 ?_
    show J p l e _ s m args below meth c A 2 _ (CO D Y A tE ad (F 0) (F 1) (F 2) (G 0) (G 1) (G 2) (G 3) (G 4) (G 5) (G 6) (G 7) (G 8) (G 9) v2 (G 11) (G 12) (G 13) (G 14) (G 15) (G 16) (G 17) (G 18) (G 19) (N 0) (N 1) (N 2) (Q 0) (Q 1) sa ma) 0 0 21 [(0, .ref (ad 0)), (1, .int (nI j2))] [.ref ((sa j2))]
    refine c_castS C0 (ci := 7) rfl (20 + 2 * j2) (fun cel h => ⟨_, ci_s h j2 (by omega)⟩) wc_X6_101 dX6_endMoves_21 ?_
    refine j_aload_n C0 dX6_endMoves_24 rfl ?_
    refine c_get C0 in_X6 (ci := 9) rfl 0 (fun cel h => ci_0 h) 5 (by decide) wf_X6_44 (v := .int ((F 0))) rfl dX6_endMoves_25 ?_
    refine j_callVn C0 (k_X4_endMove hsl ad F (hu G 10 v2) N Q sa ma (j2) (by omega) ((F 0))  ) mv_X4_endMove wm_X6_242 (c_recv C0 (ci := 7) rfl (20 + 2 * j2) (fun cel h => ⟨_, ci_s h j2 (by omega)⟩)) rfl rfl ⟨Nat.le_of_ble_eq_true rfl, Nat.le_of_ble_eq_true rfl⟩ (Nat.le_of_ble_eq_true rfl) ⟨Nat.le_refl _, Nat.le_refl _⟩ dX6_endMoves_28 ?_
    show J p l e _ s m args below meth c A 2 _ (CO D Y A tE ad (F 0) (F 1) (F 2) (G 0) (G 1) (G 2) (G 3) (G 4) (G 5) (G 6) (G 7) (G 8) (G 9) (sX4_endMove F (hu G 10 v2) N Q (j2) ((F 0))) (G 11) (G 12) (G 13) (G 14) (G 15) (G 16) (G 17) (G 18) (G 19) (N 0) (N 1) (N 2) (Q 0) (Q 1) sa ma) 0 0 31 [(0, .ref (ad 0)), (1, .int (nI j2))] []
    refine j_iinc C0 (v := nI (j2 + 1)) (L' := [(0, .ref (ad 0)), (1, .int (nI (j2 + 1)))]) dX6_endMoves_31 rfl (nI_inc j2) (by decide) rfl ?_
    refine j_goto C0 2 dX6_endMoves_34 (by decide) ?_
    exact K2
  ·
    show J p l e _ s m args below meth c A 2 _ (CO D Y A tE ad (F 0) (F 1) (F 2) (G 0) (G 1) (G 2) (G 3) (G 4) (G 5) (G 6) (G 7) (G 8) (G 9) (nf (bX6_endMoves_2 F G N Q) ((G 10)) ((N 0))) (G 11) (G 12) (G 13) (G 14) (G 15) (G 16) (G 17) (G 18) (G 19) (N 0) (N 1) (N 2) (Q 0) (Q 1) sa ma) 0 0 2 [(0, .ref (ad 0)), (1, .int (nI (((N 0)))))] []
    refine j_iload_n C0 dX6_endMoves_2 rfl ?_
    refine j_aload_n C0 dX6_endMoves_3 rfl ?_
    refine c_get C0 in_X6 (ci := 9) rfl 0 (fun cel h => ci_0 h) 3 (by decide) wf_X6_33 rfl dX6_endMoves_4 ?_
    refine j_callVv C0 (kc_size hsl (fun cel h => ci_S h)) mv_Jx4a65c_size_8abf5 wm_X6_96 (c_recv C0 (ci := 2) rfl 4 (fun cel h => ci_rS h)) rfl rfl ⟨Nat.le_of_ble_eq_true rfl, Nat.le_of_ble_eq_true rfl⟩ (Nat.le_of_ble_eq_true rfl) ⟨Nat.le_refl _, Nat.le_refl _⟩ dX6_endMoves_7 ?_
    refine j_icmp_ge C0 37 dX6_endMoves_10 (by decide) (fun _ => ?_) (fun z => absurd (nI_le (Nat.le_refl _) (by omega)) z)
    exact j_vret C0 rfl dX6_endMoves_37 (fun H h => by rw [sX6_endMoves]; exact h)
/-! ## HarborTides.takeBerthDues()V -/
def bX6_takeBerthDues_2 (F : Nat → Int32) (G : Nat → Nat → Int32) (N : Nat → Nat) (Q : Nat → Nat → Nat) (j2 : Nat) (v2 : Int32 × (Nat → Int32)) : Int32 × (Nat → Int32) := match v2 with | (v2_0, v2_1) => (if ((G 10) j2) = (2 : Int32) then ((v2_0 + ((5 : Int32) * ((G 6) j2))), (upd v2_1 j2 ((v2_1 j2) + ((5 : Int32) * ((G 6) j2))))) else (v2_0, v2_1))
def sX6_takeBerthDues (F : Nat → Int32) (G : Nat → Nat → Int32) (N : Nat → Nat) (Q : Nat → Nat → Nat) : Int32 × (Nat → Int32) := ((nf (bX6_takeBerthDues_2 F G N Q) ((F 2), (G 13)) ((N 0))).1, (nf (bX6_takeBerthDues_2 F G N Q) ((F 2), (G 13)) ((N 0))).2)
set_option maxRecDepth 100000 in
set_option maxHeartbeats 4000000 in
theorem k_X6_takeBerthDues {l : Launch} (hsl : l.stackTraces = false) {D : va_G} {Y : Nat → ClassId} {A : Nat → Prop} {E : State → Prop} {tE : Nat} (ad : Nat → Nat) (F : Nat → Int32) (G : Nat → Nat → Int32) (N : Nat → Nat) (Q : Nat → Nat → Nat) (sa ma : Nat → Nat)    : KM l yX6_takeBerthDues cX6_takeBerthDues 3 none D Y A E 3 90 0 0 [.ref (ad 0)] (CR D Y A tE ad F G N Q sa ma) none (CR D Y A tE ad (hu F 2 (sX6_takeBerthDues F G N Q).1) (hu G 13 (sX6_takeBerthDues F G N Q).2) N Q sa ma) := by
  refine KM_of RX6 [(0, .ref (ad 0))] rfl (by decide) hsl (Nat.le_of_ble_eq_true rfl) rfl (lok_of rfl rfl) ?_
  intro p e s m args below meth c C0
  show J p l e _ s m args below meth c A 3 _ (CO D Y A tE ad (F 0) (F 1) (F 2) (G 0) (G 1) (G 2) (G 3) (G 4) (G 5) (G 6) (G 7) (G 8) (G 9) (G 10) (G 11) (G 12) (G 13) (G 14) (G 15) (G 16) (G 17) (G 18) (G 19) (N 0) (N 1) (N 2) (Q 0) (Q 1) sa ma) 0 0 0 [(0, .ref (ad 0))] []
  refine c_fact (fun cel h => ci_f h) (fun hcf => ?_)
  obtain ⟨hn0, hn1, hn2, hq0, hq1⟩ := hcf
  refine j_iconst C0 (v := 0) dX6_takeBerthDues_0 (by decide) ?_
  refine j_istore_n C0 (L' := [(0, .ref (ad 0)), (1, .int ((0 : Int32)))]) dX6_takeBerthDues_1 (by decide) rfl ?_
  refine hb_lp (P := fun (j : Nat) (v : Int32 × (Nat → Int32)) => J p l e _ s m args below meth c A 3 _ (CO D Y A tE ad (F 0) (F 1) v.1 (G 0) (G 1) (G 2) (G 3) (G 4) (G 5) (G 6) (G 7) (G 8) (G 9) (G 10) (G 11) (G 12) v.2 (G 14) (G 15) (G 16) (G 17) (G 18) (G 19) (N 0) (N 1) (N 2) (Q 0) (Q 1) sa ma) 0 0 2 [(0, .ref (ad 0)), (1, .int (nI j))] []) (bX6_takeBerthDues_2 F G N Q) ((F 2), (G 13)) ((N 0)) ?_ ?_
  ·
    intro j2 hj2 K2
    generalize nf (bX6_takeBerthDues_2 F G N Q) ((F 2), (G 13)) j2 = v2 at K2 ⊢
    obtain ⟨v2_0, v2_1⟩ := v2
    show J p l e _ s m args below meth c A 3 _ (CO D Y A tE ad (F 0) (F 1) v2_0 (G 0) (G 1) (G 2) (G 3) (G 4) (G 5) (G 6) (G 7) (G 8) (G 9) (G 10) (G 11) (G 12) v2_1 (G 14) (G 15) (G 16) (G 17) (G 18) (G 19) (N 0) (N 1) (N 2) (Q 0) (Q 1) sa ma) 0 0 2 [(0, .ref (ad 0)), (1, .int (nI j2))] []
    replace K2 : J p l e _ s m args below meth c A 3 _ (CO D Y A tE ad (F 0) (F 1) (bX6_takeBerthDues_2 F G N Q j2 (v2_0, v2_1)).1 (G 0) (G 1) (G 2) (G 3) (G 4) (G 5) (G 6) (G 7) (G 8) (G 9) (G 10) (G 11) (G 12) (bX6_takeBerthDues_2 F G N Q j2 (v2_0, v2_1)).2 (G 14) (G 15) (G 16) (G 17) (G 18) (G 19) (N 0) (N 1) (N 2) (Q 0) (Q 1) sa ma) 0 0 2 [(0, .ref (ad 0)), (1, .int (nI (j2 + 1)))] [] := K2
    refine j_iload_n C0 dX6_takeBerthDues_2 rfl ?_
    refine j_aload_n C0 dX6_takeBerthDues_3 rfl ?_
    refine c_get C0 in_X6 (ci := 9) rfl 0 (fun cel h => ci_0 h) 3 (by decide) wf_X6_33 rfl dX6_takeBerthDues_4 ?_
    refine j_callVv C0 (kc_size hsl (fun cel h => ci_S h)) mv_Jx4a65c_size_8abf5 wm_X6_96 (c_recv C0 (ci := 2) rfl 4 (fun cel h => ci_rS h)) rfl rfl ⟨Nat.le_of_ble_eq_true rfl, Nat.le_of_ble_eq_true rfl⟩ (Nat.le_of_ble_eq_true rfl) ⟨Nat.le_refl _, Nat.le_refl _⟩ dX6_takeBerthDues_7 ?_
    refine j_icmp_ge C0 50 dX6_takeBerthDues_10 (by decide) (fun z => absurd z (nI_ge hj2 (by omega))) (fun _ => ?_)
    refine j_aload_n C0 dX6_takeBerthDues_13 rfl ?_
    refine c_get C0 in_X6 (ci := 9) rfl 0 (fun cel h => ci_0 h) 3 (by decide) wf_X6_33 rfl dX6_takeBerthDues_14 ?_
    refine j_iload_n C0 dX6_takeBerthDues_17 rfl ?_
    refine j_callVv C0 (kc_get hsl (fun cel h => ci_S h) (by omega) (i := j2) (by omega)) mv_Jx4a65c_get_915e3 wm_X6_238 (c_recv C0 (ci := 2) rfl 4 (fun cel h => ci_rS h)) rfl rfl ⟨Nat.le_of_ble_eq_true rfl, Nat.le_of_ble_eq_true rfl⟩ (Nat.le_of_ble_eq_true rfl) ⟨Nat.le_refl _, Nat.le_refl _⟩ dX6_takeBerthDues_18 ?_
    show J p l e _ s m args below meth c A 3 _ (CO D Y A tE ad (F 0) (F 1) v2_0 (G 0) (G 1) (G 2) (G 3) (G 4) (G 5) (G 6) (G 7) (G 8) (G 9) (G 10) (G 11) (G 12) v2_1 (G 14) (G 15) (G 16) (G 17) (G 18) (G 19) (N 0) (N 1) (N 2) (Q 0) (Q 1) sa ma) 0 0 21 [(0, .ref (ad 0)), (1, .int (nI j2))] [.ref ((sa j2))]
    refine c_castS C0 (ci := 7) rfl (20 + 2 * j2) (fun cel h => ⟨_, ci_s h j2 (by omega)⟩) wc_X6_101 dX6_takeBerthDues_21 ?_
    refine j_astore_n C0 (L' := [(0, .ref (ad 0)), (1, .int (nI j2)), (2, .ref ((sa j2)))]) dX6_takeBerthDues_24 (by decide) rfl ?_
    refine j_aload_n C0 dX6_takeBerthDues_25 rfl ?_
    refine c_get C0 in_X4 (ci := 7) rfl (20 + 2 * j2) (fun cel h => ci_s h j2 (by omega)) 5 (by decide) wf_X6_138 (v := .int (((G 10) j2))) rfl dX6_takeBerthDues_26 ?_
    refine j_iconst C0 (v := 2) dX6_takeBerthDues_29 (by decide) ?_
    refine j_icmp_ne C0 44 dX6_takeBerthDues_30 (by decide) (fun (q2 : ¬ (((G 10) j2) = (2 : Int32))) => ?_) (fun (q2 : ((G 10) j2) = (2 : Int32)) => ?_)
    ·
      refine j_iinc C0 (v := nI (j2 + 1)) (L' := [(0, .ref (ad 0)), (1, .int (nI (j2 + 1))), (2, .ref ((sa j2)))]) dX6_takeBerthDues_44 rfl (nI_inc j2) (by decide) rfl ?_
      refine j_goto C0 2 dX6_takeBerthDues_47 (by decide) ?_
      rw [bX6_takeBerthDues_2, if_neg q2] at K2
      refine j_locals (L' := [(0, .ref (ad 0)), (1, .int (nI (j2 + 1)))]) (fun q hq => by simp only [List.mem_cons, List.mem_nil_iff, or_false] at hq ⊢; rcases hq with rfl | rfl <;> simp) (lok_of rfl rfl) ?_
      exact K2
    ·
      refine j_aload_n C0 dX6_takeBerthDues_33 rfl ?_
      refine j_aload_n C0 dX6_takeBerthDues_34 rfl ?_
      refine j_iconst C0 (v := 5) dX6_takeBerthDues_35 (by decide) ?_
      refine j_aload_n C0 dX6_takeBerthDues_36 rfl ?_
      refine c_get C0 in_X4 (ci := 7) rfl (20 + 2 * j2) (fun cel h => ci_s h j2 (by omega)) 1 (by decide) wf_X6_225 (v := .int (((G 6) j2))) rfl dX6_takeBerthDues_37 ?_
      refine j_imul C0 dX6_takeBerthDues_40 ?_
      refine j_callVn C0 (k_X6_payPort hsl ad (hu F 2 v2_0) (hu G 13 v2_1) N Q sa ma  (j2) (((5 : Int32) * ((G 6) j2))) (by omega) ) mv_X6_payPort wm_X6_227 (c_recv C0 (ci := 9) rfl 0 (fun cel h => ⟨_, ci_0 h⟩)) rfl rfl ⟨Nat.le_of_ble_eq_true rfl, Nat.le_of_ble_eq_true rfl⟩ (Nat.le_of_ble_eq_true rfl) ⟨Nat.le_refl _, Nat.le_refl _⟩ dX6_takeBerthDues_41 ?_
      show J p l e _ s m args below meth c A 3 _ (CO D Y A tE ad (F 0) (F 1) (v2_0 + ((5 : Int32) * ((G 6) j2))) (G 0) (G 1) (G 2) (G 3) (G 4) (G 5) (G 6) (G 7) (G 8) (G 9) (G 10) (G 11) (G 12) (upd v2_1 j2 ((v2_1 j2) + ((5 : Int32) * ((G 6) j2)))) (G 14) (G 15) (G 16) (G 17) (G 18) (G 19) (N 0) (N 1) (N 2) (Q 0) (Q 1) sa ma) 0 0 44 [(0, .ref (ad 0)), (1, .int (nI j2)), (2, .ref ((sa j2)))] []
      refine j_iinc C0 (v := nI (j2 + 1)) (L' := [(0, .ref (ad 0)), (1, .int (nI (j2 + 1))), (2, .ref ((sa j2)))]) dX6_takeBerthDues_44 rfl (nI_inc j2) (by decide) rfl ?_
      refine j_goto C0 2 dX6_takeBerthDues_47 (by decide) ?_
      rw [bX6_takeBerthDues_2, if_pos q2] at K2
      refine j_locals (L' := [(0, .ref (ad 0)), (1, .int (nI (j2 + 1)))]) (fun q hq => by simp only [List.mem_cons, List.mem_nil_iff, or_false] at hq ⊢; rcases hq with rfl | rfl <;> simp) (lok_of rfl rfl) ?_
      exact K2
  ·
    show J p l e _ s m args below meth c A 3 _ (CO D Y A tE ad (F 0) (F 1) (nf (bX6_takeBerthDues_2 F G N Q) ((F 2), (G 13)) ((N 0))).1 (G 0) (G 1) (G 2) (G 3) (G 4) (G 5) (G 6) (G 7) (G 8) (G 9) (G 10) (G 11) (G 12) (nf (bX6_takeBerthDues_2 F G N Q) ((F 2), (G 13)) ((N 0))).2 (G 14) (G 15) (G 16) (G 17) (G 18) (G 19) (N 0) (N 1) (N 2) (Q 0) (Q 1) sa ma) 0 0 2 [(0, .ref (ad 0)), (1, .int (nI (((N 0)))))] []
    refine j_iload_n C0 dX6_takeBerthDues_2 rfl ?_
    refine j_aload_n C0 dX6_takeBerthDues_3 rfl ?_
    refine c_get C0 in_X6 (ci := 9) rfl 0 (fun cel h => ci_0 h) 3 (by decide) wf_X6_33 rfl dX6_takeBerthDues_4 ?_
    refine j_callVv C0 (kc_size hsl (fun cel h => ci_S h)) mv_Jx4a65c_size_8abf5 wm_X6_96 (c_recv C0 (ci := 2) rfl 4 (fun cel h => ci_rS h)) rfl rfl ⟨Nat.le_of_ble_eq_true rfl, Nat.le_of_ble_eq_true rfl⟩ (Nat.le_of_ble_eq_true rfl) ⟨Nat.le_refl _, Nat.le_refl _⟩ dX6_takeBerthDues_7 ?_
    refine j_icmp_ge C0 50 dX6_takeBerthDues_10 (by decide) (fun _ => ?_) (fun z => absurd (nI_le (Nat.le_refl _) (by omega)) z)
    exact j_vret C0 rfl dX6_takeBerthDues_50 (fun H h => by rw [sX6_takeBerthDues]; exact h)
