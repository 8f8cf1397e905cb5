theorem cr_ok {a b c : Int32} (h : eX6_checkRange a b c = 0) : b ≤ a ∧ a ≤ c := by
  unfold eX6_checkRange at h
  simp only [Int32.lt_iff_toInt_lt, Int32.le_iff_toInt_le] at *
  split at h
  · exact absurd h (by decide)
  · split at h
    · omega
    · exact absurd h (by decide)
theorem cr_vp {a c : Int32} {n : Nat} (h : eX6_checkRange a 0 c = 0) (hc : c.toInt < n) : vp_in a n := by
  have h1 := cr_ok h
  rw [vp_in_iff]
  simp only [Int32.le_iff_toInt_le, Int32.toInt_zero] at h1
  omega
theorem vp_up {a : Int32} {n : Nat} (hn : n + 1 < 2 ^ 31) (h : vp_in a n) : vp_in (a + 1) (n + 1) := by
  obtain ⟨j, h1, rfl⟩ := vp_in_of h (by omega)
  rw [nI_1]
  exact vp_in_nI (by omega) hn
/-! ## HarborTides.shipAt(I)LHarborTides$Ship; -/
def eX6_shipAt (F : Nat → Int32) (G : Nat → Nat → Int32) (N : Nat → Nat) (Q : Nat → Nat → Nat) (a1 : Int32) : Nat := (if (eX6_checkPlace (a1) (nI (N 0))) = 0 then 0 else (eX6_checkPlace (a1) (nI (N 0))))
set_option maxRecDepth 100000 in
set_option maxHeartbeats 4000000 in
theorem k_X6_shipAt {l : Launch} (hsl : l.stackTraces = false) {D : va_G} {Y : Nat → ClassId} {A : Nat → Prop} {E : State → Prop} {tE : Nat} {mi : Nat} (hE : ∀ U, E U → EC A tE mi U) (ad : Nat → Nat) (F : Nat → Int32) (G : Nat → Nat → Int32) (N : Nat → Nat) (Q : Nat → Nat → Nat) (sa ma : Nat → Nat) (a1 : Int32)   : XM l yX6_shipAt cX6_shipAt 2 (some (.object "HarborTides$Ship")) D Y A E 8 150 1 6 [.ref (ad 0), .int (a1)] (CR D Y A tE ad F G N Q sa ma) (some (.ref (sa (a1).toNatClampNeg))) (eX6_shipAt F G N Q a1) (CR D Y A tE ad F G N Q sa ma) := by
  refine XM_of RX6 [(0, .ref (ad 0)), (1, .int (a1))] rfl (by decide) hsl (Nat.le_of_ble_eq_true rfl) rfl (lok_of rfl rfl) ?_
  intro p e s m args below meth c C0 hexc
  show J p l e _ s m args below meth c A 2 _ (CO D Y A tE ad (F 0) (F 1) (F 2) (G 0) (G 1) (G 2) (G 3) (G 4) (G 5) (G 6) (G 7) (G 8) (G 9) (G 10) (G 11) (G 12) (G 13) (G 14) (G 15) (G 16) (G 17) (G 18) (G 19) (N 0) (N 1) (N 2) (Q 0) (Q 1) sa ma) 0 0 0 [(0, .ref (ad 0)), (1, .int (a1))] []
  refine c_fact (fun cel h => ci_f h) (fun hcf => ?_)
  obtain ⟨hn0, hn1, hn2, hq0, hq1⟩ := hcf
  refine j_iload_n C0 dX6_shipAt_0 rfl ?_
  refine j_aload_n C0 dX6_shipAt_1 rfl ?_
  refine c_get C0 in_X6 (ci := 9) rfl 0 (fun cel h => ci_0 h) 3 (by decide) wf_X6_33 rfl dX6_shipAt_2 ?_
  refine j_callVv C0 (kc_size hsl (fun cel h => ci_S h)) mv_Jx4a65c_size_8abf5 wm_X6_96 (c_recv C0 (ci := 2) rfl 4 (fun cel h => ci_rS h)) rfl rfl ⟨Nat.le_of_ble_eq_true rfl, Nat.le_of_ble_eq_true rfl⟩ (Nat.le_of_ble_eq_true rfl) ⟨Nat.zero_le _, Nat.zero_le _⟩ dX6_shipAt_5 ?_
  refine j_xcallS C0 hexc (k_X6_checkPlace hsl hE (a1) (nI (N 0)) GW.cw ) ms_X6_checkPlace wm_X6_54 rfl rfl ⟨Nat.le_of_ble_eq_true rfl, Nat.le_of_ble_eq_true rfl⟩ (Nat.le_of_ble_eq_true rfl) ⟨(Nat.le_of_ble_eq_true rfl), (Nat.le_of_ble_eq_true rfl)⟩ dX6_shipAt_8 ⟨(Nat.le_of_ble_eq_true rfl), (Nat.le_of_ble_eq_true rfl)⟩ (fun (q1 : ¬ (eX6_checkPlace (a1) (nI (N 0))) = 0) => ⟨by rw [eX6_shipAt, if_neg q1], fun H h => h⟩) (fun (q1 : (eX6_checkPlace (a1) (nI (N 0))) = 0) => ?_)
  have hv := cp_ok (by omega) q1
  obtain ⟨he, hlt⟩ := vp_nat (by omega) hv
  show J p l e _ s m args below meth c A 2 _ (CO D Y A tE ad (F 0) (F 1) (F 2) (G 0) (G 1) (G 2) (G 3) (G 4) (G 5) (G 6) (G 7) (G 8) (G 9) (G 10) (G 11) (G 12) (G 13) (G 14) (G 15) (G 16) (G 17) (G 18) (G 19) (N 0) (N 1) (N 2) (Q 0) (Q 1) sa ma) (0 + 1) (0 + 6) 11 [(0, .ref (ad 0)), (1, .int (a1))] []
  refine j_aload_n C0 dX6_shipAt_11 rfl ?_
  refine c_get C0 in_X6 (ci := 9) rfl 0 (fun cel h => ci_0 h) 3 (by decide) wf_X6_33 rfl dX6_shipAt_12 ?_
  refine j_iload_n C0 dX6_shipAt_15 rfl ?_
  refine j_top (nI (a1).toNatClampNeg) he ?_
  refine j_callVv C0 (kc_get hsl (fun cel h => ci_S h) (by omega) (i := (a1).toNatClampNeg) hlt) mv_Jx4a65c_get_915e3 wm_X6_238 (c_recv C0 (ci := 2) rfl 4 (fun cel h => ci_rS h)) rfl rfl ⟨Nat.le_of_ble_eq_true rfl, Nat.le_of_ble_eq_true rfl⟩ (Nat.le_of_ble_eq_true rfl) ⟨(Nat.le_of_ble_eq_true rfl), (Nat.le_of_ble_eq_true rfl)⟩ dX6_shipAt_16 ?_
  show J p l e _ s m args below meth c A 2 _ (CO D Y A tE ad (F 0) (F 1) (F 2) (G 0) (G 1) (G 2) (G 3) (G 4) (G 5) (G 6) (G 7) (G 8) (G 9) (G 10) (G 11) (G 12) (G 13) (G 14) (G 15) (G 16) (G 17) (G 18) (G 19) (N 0) (N 1) (N 2) (Q 0) (Q 1) sa ma) (0 + 1) (0 + 6) 19 [(0, .ref (ad 0)), (1, .int (a1))] [.ref ((sa (a1).toNatClampNeg))]
  refine c_castS C0 (ci := 7) rfl (20 + 2 * (a1).toNatClampNeg) (fun cel h => ⟨_, ci_s h (a1).toNatClampNeg hlt⟩) wc_X6_101 dX6_shipAt_19 ?_
  refine j_xret (by rw [eX6_shipAt, if_pos q1]) (Nat.le_of_ble_eq_true rfl) (Nat.le_of_ble_eq_true rfl) ?_
  exact j_aret C0 rfl (Or.inl ⟨_, rfl⟩) dX6_shipAt_22 (fun H h => h)
theorem sA_lt {F : Nat → Int32} {G : Nat → Nat → Int32} {N : Nat → Nat} {Q : Nat → Nat → Nat} {a : Int32} (h9 : N 0 ≤ 30) (h : eX6_shipAt F G N Q a = 0) : (a).toNatClampNeg < N 0 := by
  unfold eX6_shipAt at h
  split at h
  · rename_i h1
    exact (vp_nat (by omega) (cp_ok (by omega) h1)).2
  · rename_i h1
    exact absurd h h1
/-! ## HarborTides.state(I)I -/
def eX6_state (F : Nat → Int32) (G : Nat → Nat → Int32) (N : Nat → Nat) (Q : Nat → Nat → Nat) (a1 : Int32) : Nat := (if (eX6_shipAt F G N Q (a1)) = 0 then 0 else (eX6_shipAt F G N Q (a1)))
def vX6_state (F : Nat → Int32) (G : Nat → Nat → Int32) (N : Nat → Nat) (Q : Nat → Nat → Nat) (a1 : Int32) : Int32 := (if (eX6_shipAt F G N Q (a1)) = 0 then ((G 10) ((a1).toNatClampNeg)) else (0 : Int32))
set_option maxRecDepth 100000 in
set_option maxHeartbeats 4000000 in
theorem k_X6_state {l : Launch} (hsl : l.stackTraces = false) {D : va_G} {Y : Nat → ClassId} {A : Nat → Prop} {E : State → Prop} {tE : Nat} {mi : Nat} (hE : ∀ U, E U → EC A tE mi U) (ad : Nat → Nat) (F : Nat → Int32) (G : Nat → Nat → Int32) (N : Nat → Nat) (Q : Nat → Nat → Nat)  (a1 : Int32)   : XM l yX6_state cX6_state 2 (some .int) D Y A E 9 171 2 12 [.ref (ad 0), .int (a1)] (CA D Y A tE ad F G N Q) (some (.int (vX6_state F G N Q a1))) (eX6_state F G N Q a1) (CA D Y A tE ad F G N Q) := by
  refine XM_of RX6 [(0, .ref (ad 0)), (1, .int (a1))] rfl (by decide) hsl (Nat.le_of_ble_eq_true rfl) rfl (lok_of rfl rfl) ?_
  intro p e s m args below meth c C0 hexc
  refine j_ex (fun sa => ?_)
  refine j_ex (fun ma => ?_)
  show J p l e _ s m args below meth c A 2 _ (CO D Y A tE ad (F 0) (F 1) (F 2) (G 0) (G 1) (G 2) (G 3) (G 4) (G 5) (G 6) (G 7) (G 8) (G 9) (G 10) (G 11) (G 12) (G 13) (G 14) (G 15) (G 16) (G 17) (G 18) (G 19) (N 0) (N 1) (N 2) (Q 0) (Q 1) sa ma) 0 0 0 [(0, .ref (ad 0)), (1, .int (a1))] []
  refine c_fact (fun cel h => ci_f h) (fun hcf => ?_)
  obtain ⟨hn0, hn1, hn2, hq0, hq1⟩ := hcf
  refine j_aload_n C0 dX6_state_0 rfl ?_
  refine j_iload_n C0 dX6_state_1 rfl ?_
  refine j_xcallV C0 hexc (k_X6_shipAt hsl hE ad F G N Q sa ma (a1)  ) mv_X6_shipAt wm_X6_110 (c_recv C0 (ci := 9) rfl 0 (fun cel h => ⟨_, ci_0 h⟩)) rfl rfl ⟨Nat.le_of_ble_eq_true rfl, Nat.le_of_ble_eq_true rfl⟩ (Nat.le_of_ble_eq_true rfl) ⟨(Nat.le_of_ble_eq_true rfl), (Nat.le_of_ble_eq_true rfl)⟩ dX6_state_2 ⟨(Nat.le_of_ble_eq_true rfl), (Nat.le_of_ble_eq_true rfl)⟩ (fun (q1 : ¬ (eX6_shipAt F G N Q (a1)) = 0) => ⟨by rw [eX6_state, if_neg q1], fun H h => ⟨_, _, h⟩⟩) (fun (q1 : (eX6_shipAt F G N Q (a1)) = 0) => ?_)
  have hsA := sA_lt hn0 q1
  show J p l e _ s m args below meth c A 2 _ (CO D Y A tE ad (F 0) (F 1) (F 2) (G 0) (G 1) (G 2) (G 3) (G 4) (G 5) (G 6) (G 7) (G 8) (G 9) (G 10) (G 11) (G 12) (G 13) (G 14) (G 15) (G 16) (G 17) (G 18) (G 19) (N 0) (N 1) (N 2) (Q 0) (Q 1) sa ma) (0 + 1) (0 + 6) 5 [(0, .ref (ad 0)), (1, .int (a1))] [.ref ((sa (a1).toNatClampNeg))]
  refine c_get C0 in_X4 (ci := 7) rfl (20 + 2 * ((a1).toNatClampNeg)) (fun cel h => ci_s h ((a1).toNatClampNeg) hsA) 5 (by decide) wf_X6_138 (v := .int (((G 10) ((a1).toNatClampNeg)))) rfl dX6_state_5 ?_
  refine j_xret (by rw [eX6_state, if_pos q1]) (Nat.le_of_ble_eq_true rfl) (Nat.le_of_ble_eq_true rfl) ?_
  exact j_iretE C0 rfl (by rw [vX6_state, if_pos q1]) dX6_state_8 (fun H h => ⟨_, _, h⟩)
/-! ## HarborTides.paid(I)I -/
def eX6_paid (F : Nat → Int32) (G : Nat → Nat → Int32) (N : Nat → Nat) (Q : Nat → Nat → Nat) (a1 : Int32) : Nat := (if (eX6_shipAt F G N Q (a1)) = 0 then 0 else (eX6_shipAt F G N Q (a1)))
def vX6_paid (F : Nat → Int32) (G : Nat → Nat → Int32) (N : Nat → Nat) (Q : Nat → Nat → Nat) (a1 : Int32) : Int32 := (if (eX6_shipAt F G N Q (a1)) = 0 then ((G 13) ((a1).toNatClampNeg)) else (0 : Int32))
set_option maxRecDepth 100000 in
set_option maxHeartbeats 4000000 in
theorem k_X6_paid {l : Launch} (hsl : l.stackTraces = false) {D : va_G} {Y : Nat → ClassId} {A : Nat → Prop} {E : State → Prop} {tE : Nat} {mi : Nat} (hE : ∀ U, E U → EC A tE mi U) (ad : Nat → Nat) (F : Nat → Int32) (G : Nat → Nat → Int32) (N : Nat → Nat) (Q : Nat → Nat → Nat)  (a1 : Int32)   : XM l yX6_paid cX6_paid 2 (some .int) D Y A E 9 171 2 12 [.ref (ad 0), .int (a1)] (CA D Y A tE ad F G N Q) (some (.int (vX6_paid F G N Q a1))) (eX6_paid F G N Q a1) (CA D Y A tE ad F G N Q) := by
  refine XM_of RX6 [(0, .ref (ad 0)), (1, .int (a1))] rfl (by decide) hsl (Nat.le_of_ble_eq_true rfl) rfl (lok_of rfl rfl) ?_
  intro p e s m args below meth c C0 hexc
  refine j_ex (fun sa => ?_)
  refine j_ex (fun ma => ?_)
  show J p l e _ s m args below meth c A 2 _ (CO D Y A tE ad (F 0) (F 1) (F 2) (G 0) (G 1) (G 2) (G 3) (G 4) (G 5) (G 6) (G 7) (G 8) (G 9) (G 10) (G 11) (G 12) (G 13) (G 14) (G 15) (G 16) (G 17) (G 18) (G 19) (N 0) (N 1) (N 2) (Q 0) (Q 1) sa ma) 0 0 0 [(0, .ref (ad 0)), (1, .int (a1))] []
  refine c_fact (fun cel h => ci_f h) (fun hcf => ?_)
  obtain ⟨hn0, hn1, hn2, hq0, hq1⟩ := hcf
  refine j_aload_n C0 dX6_paid_0 rfl ?_
  refine j_iload_n C0 dX6_paid_1 rfl ?_
  refine j_xcallV C0 hexc (k_X6_shipAt hsl hE ad F G N Q sa ma (a1)  ) mv_X6_shipAt wm_X6_110 (c_recv C0 (ci := 9) rfl 0 (fun cel h => ⟨_, ci_0 h⟩)) rfl rfl ⟨Nat.le_of_ble_eq_true rfl, Nat.le_of_ble_eq_true rfl⟩ (Nat.le_of_ble_eq_true rfl) ⟨(Nat.le_of_ble_eq_true rfl), (Nat.le_of_ble_eq_true rfl)⟩ dX6_paid_2 ⟨(Nat.le_of_ble_eq_true rfl), (Nat.le_of_ble_eq_true rfl)⟩ (fun (q1 : ¬ (eX6_shipAt F G N Q (a1)) = 0) => ⟨by rw [eX6_paid, if_neg q1], fun H h => ⟨_, _, h⟩⟩) (fun (q1 : (eX6_shipAt F G N Q (a1)) = 0) => ?_)
  have hsA := sA_lt hn0 q1
  show J p l e _ s m args below meth c A 2 _ (CO D Y A tE ad (F 0) (F 1) (F 2) (G 0) (G 1) (G 2) (G 3) (G 4) (G 5) (G 6) (G 7) (G 8) (G 9) (G 10) (G 11) (G 12) (G 13) (G 14) (G 15) (G 16) (G 17) (G 18) (G 19) (N 0) (N 1) (N 2) (Q 0) (Q 1) sa ma) (0 + 1) (0 + 6) 5 [(0, .ref (ad 0)), (1, .int (a1))] [.ref ((sa (a1).toNatClampNeg))]
  refine c_get C0 in_X4 (ci := 7) rfl (20 + 2 * ((a1).toNatClampNeg)) (fun cel h => ci_s h ((a1).toNatClampNeg) hsA) 8 (by decide) wf_X6_211 (v := .int (((G 13) ((a1).toNatClampNeg)))) rfl dX6_paid_5 ?_
  refine j_xret (by rw [eX6_paid, if_pos q1]) (Nat.le_of_ble_eq_true rfl) (Nat.le_of_ble_eq_true rfl) ?_
  exact j_iretE C0 rfl (by rw [vX6_paid, if_pos q1]) dX6_paid_8 (fun H h => ⟨_, _, h⟩)
/-! ## HarborTides.lost(I)I -/
def eX6_lost (F : Nat → Int32) (G : Nat → Nat → Int32) (N : Nat → Nat) (Q : Nat → Nat → Nat) (a1 : Int32) : Nat := (if (eX6_shipAt F G N Q (a1)) = 0 then 0 else (eX6_shipAt F G N Q (a1)))
def vX6_lost (F : Nat → Int32) (G : Nat → Nat → Int32) (N : Nat → Nat) (Q : Nat → Nat → Nat) (a1 : Int32) : Int32 := (if (eX6_shipAt F G N Q (a1)) = 0 then ((G 14) ((a1).toNatClampNeg)) else (0 : Int32))
set_option maxRecDepth 100000 in
set_option maxHeartbeats 4000000 in
theorem k_X6_lost {l : Launch} (hsl : l.stackTraces = false) {D : va_G} {Y : Nat → ClassId} {A : Nat → Prop} {E : State → Prop} {tE : Nat} {mi : Nat} (hE : ∀ U, E U → EC A tE mi U) (ad : Nat → Nat) (F : Nat → Int32) (G : Nat → Nat → Int32) (N : Nat → Nat) (Q : Nat → Nat → Nat)  (a1 : Int32)   : XM l yX6_lost cX6_lost 2 (some .int) D Y A E 9 171 2 12 [.ref (ad 0), .int (a1)] (CA D Y A tE ad F G N Q) (some (.int (vX6_lost F G N Q a1))) (eX6_lost F G N Q a1) (CA D Y A tE ad F G N Q) := by
  refine XM_of RX6 [(0, .ref (ad 0)), (1, .int (a1))] rfl (by decide) hsl (Nat.le_of_ble_eq_true rfl) rfl (lok_of rfl rfl) ?_
  intro p e s m args below meth c C0 hexc
  refine j_ex (fun sa => ?_)
  refine j_ex (fun ma => ?_)
  show J p l e _ s m args below meth c A 2 _ (CO D Y A tE ad (F 0) (F 1) (F 2) (G 0) (G 1) (G 2) (G 3) (G 4) (G 5) (G 6) (G 7) (G 8) (G 9) (G 10) (G 11) (G 12) (G 13) (G 14) (G 15) (G 16) (G 17) (G 18) (G 19) (N 0) (N 1) (N 2) (Q 0) (Q 1) sa ma) 0 0 0 [(0, .ref (ad 0)), (1, .int (a1))] []
  refine c_fact (fun cel h => ci_f h) (fun hcf => ?_)
  obtain ⟨hn0, hn1, hn2, hq0, hq1⟩ := hcf
  refine j_aload_n C0 dX6_lost_0 rfl ?_
  refine j_iload_n C0 dX6_lost_1 rfl ?_
  refine j_xcallV C0 hexc (k_X6_shipAt hsl hE ad F G N Q sa ma (a1)  ) mv_X6_shipAt wm_X6_110 (c_recv C0 (ci := 9) rfl 0 (fun cel h => ⟨_, ci_0 h⟩)) rfl rfl ⟨Nat.le_of_ble_eq_true rfl, Nat.le_of_ble_eq_true rfl⟩ (Nat.le_of_ble_eq_true rfl) ⟨(Nat.le_of_ble_eq_true rfl), (Nat.le_of_ble_eq_true rfl)⟩ dX6_lost_2 ⟨(Nat.le_of_ble_eq_true rfl), (Nat.le_of_ble_eq_true rfl)⟩ (fun (q1 : ¬ (eX6_shipAt F G N Q (a1)) = 0) => ⟨by rw [eX6_lost, if_neg q1], fun H h => ⟨_, _, h⟩⟩) (fun (q1 : (eX6_shipAt F G N Q (a1)) = 0) => ?_)
  have hsA := sA_lt hn0 q1
  show J p l e _ s m args below meth c A 2 _ (CO D Y A tE ad (F 0) (F 1) (F 2) (G 0) (G 1) (G 2) (G 3) (G 4) (G 5) (G 6) (G 7) (G 8) (G 9) (G 10) (G 11) (G 12) (G 13) (G 14) (G 15) (G 16) (G 17) (G 18) (G 19) (N 0) (N 1) (N 2) (Q 0) (Q 1) sa ma) (0 + 1) (0 + 6) 5 [(0, .ref (ad 0)), (1, .int (a1))] [.ref ((sa (a1).toNatClampNeg))]
  refine c_get C0 in_X4 (ci := 7) rfl (20 + 2 * ((a1).toNatClampNeg)) (fun cel h => ci_s h ((a1).toNatClampNeg) hsA) 9 (by decide) wf_X6_217 (v := .int (((G 14) ((a1).toNatClampNeg)))) rfl dX6_lost_5 ?_
  refine j_xret (by rw [eX6_lost, if_pos q1]) (Nat.le_of_ble_eq_true rfl) (Nat.le_of_ble_eq_true rfl) ?_
  exact j_iretE C0 rfl (by rw [vX6_lost, if_pos q1]) dX6_lost_8 (fun H h => ⟨_, _, h⟩)
/-! ## HarborTides.claims(I)I -/
def eX6_claims (F : Nat → Int32) (G : Nat → Nat → Int32) (N : Nat → Nat) (Q : Nat → Nat → Nat) (a1 : Int32) : Nat := (if (eX6_shipAt F G N Q (a1)) = 0 then 0 else (eX6_shipAt F G N Q (a1)))
def vX6_claims (F : Nat → Int32) (G : Nat → Nat → Int32) (N : Nat → Nat) (Q : Nat → Nat → Nat) (a1 : Int32) : Int32 := (if (eX6_shipAt F G N Q (a1)) = 0 then ((G 15) ((a1).toNatClampNeg)) else (0 : Int32))
set_option maxRecDepth 100000 in
set_option maxHeartbeats 4000000 in
theorem k_X6_claims {l : Launch} (hsl : l.stackTraces = false) {D : va_G} {Y : Nat → ClassId} {A : Nat → Prop} {E : State → Prop} {tE : Nat} {mi : Nat} (hE : ∀ U, E U → EC A tE mi U) (ad : Nat → Nat) (F : Nat → Int32) (G : Nat → Nat → Int32) (N : Nat → Nat) (Q : Nat → Nat → Nat)  (a1 : Int32)   : XM l yX6_claims cX6_claims 2 (some .int) D Y A E 9 171 2 12 [.ref (ad 0), .int (a1)] (CA D Y A tE ad F G N Q) (some (.int (vX6_claims F G N Q a1))) (eX6_claims F G N Q a1) (CA D Y A tE ad F G N Q) := by
  refine XM_of RX6 [(0, .ref (ad 0)), (1, .int (a1))] rfl (by decide) hsl (Nat.le_of_ble_eq_true rfl) rfl (lok_of rfl rfl) ?_
  intro p e s m args below meth c C0 hexc
  refine j_ex (fun sa => ?_)
  refine j_ex (fun ma => ?_)
  show J p l e _ s m args below meth c A 2 _ (CO D Y A tE ad (F 0) (F 1) (F 2) (G 0) (G 1) (G 2) (G 3) (G 4) (G 5) (G 6) (G 7) (G 8) (G 9) (G 10) (G 11) (G 12) (G 13) (G 14) (G 15) (G 16) (G 17) (G 18) (G 19) (N 0) (N 1) (N 2) (Q 0) (Q 1) sa ma) 0 0 0 [(0, .ref (ad 0)), (1, .int (a1))] []
  refine c_fact (fun cel h => ci_f h) (fun hcf => ?_)
  obtain ⟨hn0, hn1, hn2, hq0, hq1⟩ := hcf
  refine j_aload_n C0 dX6_claims_0 rfl ?_
  refine j_iload_n C0 dX6_claims_1 rfl ?_
  refine j_xcallV C0 hexc (k_X6_shipAt hsl hE ad F G N Q sa ma (a1)  ) mv_X6_shipAt wm_X6_110 (c_recv C0 (ci := 9) rfl 0 (fun cel h => ⟨_, ci_0 h⟩)) rfl rfl ⟨Nat.le_of_ble_eq_true rfl, Nat.le_of_ble_eq_true rfl⟩ (Nat.le_of_ble_eq_true rfl) ⟨(Nat.le_of_ble_eq_true rfl), (Nat.le_of_ble_eq_true rfl)⟩ dX6_claims_2 ⟨(Nat.le_of_ble_eq_true rfl), (Nat.le_of_ble_eq_true rfl)⟩ (fun (q1 : ¬ (eX6_shipAt F G N Q (a1)) = 0) => ⟨by rw [eX6_claims, if_neg q1], fun H h => ⟨_, _, h⟩⟩) (fun (q1 : (eX6_shipAt F G N Q (a1)) = 0) => ?_)
  have hsA := sA_lt hn0 q1
  show J p l e _ s m args below meth c A 2 _ (CO D Y A tE ad (F 0) (F 1) (F 2) (G 0) (G 1) (G 2) (G 3) (G 4) (G 5) (G 6) (G 7) (G 8) (G 9) (G 10) (G 11) (G 12) (G 13) (G 14) (G 15) (G 16) (G 17) (G 18) (G 19) (N 0) (N 1) (N 2) (Q 0) (Q 1) sa ma) (0 + 1) (0 + 6) 5 [(0, .ref (ad 0)), (1, .int (a1))] [.ref ((sa (a1).toNatClampNeg))]
  refine c_get C0 in_X4 (ci := 7) rfl (20 + 2 * ((a1).toNatClampNeg)) (fun cel h => ci_s h ((a1).toNatClampNeg) hsA) 10 (by decide) wf_X6_220 (v := .int (((G 15) ((a1).toNatClampNeg)))) rfl dX6_claims_5 ?_
  refine j_xret (by rw [eX6_claims, if_pos q1]) (Nat.le_of_ble_eq_true rfl) (Nat.le_of_ble_eq_true rfl) ?_
  exact j_iretE C0 rfl (by rw [vX6_claims, if_pos q1]) dX6_claims_8 (fun H h => ⟨_, _, h⟩)
/-! ## HarborTides.tugs()I -/
def eX6_tugs (F : Nat → Int32) (G : Nat → Nat → Int32) (N : Nat → Nat) (Q : Nat → Nat → Nat) : Nat := 0
def vX6_tugs (F : Nat → Int32) (G : Nat → Nat → Int32) (N : Nat → Nat) (Q : Nat → Nat → Nat) : Int32 := (vX0_readyTugs F G N Q ((F 0)) ((N 1)))
set_option maxRecDepth 100000 in
set_option maxHeartbeats 4000000 in
theorem k_X6_tugs {l : Launch} (hsl : l.stackTraces = false) {D : va_G} {Y : Nat → ClassId} {A : Nat → Prop} {E : State → Prop} {tE : Nat} {mi : Nat} (hE : ∀ U, E U → EC A tE mi U) (ad : Nat → Nat) (F : Nat → Int32) (G : Nat → Nat → Int32) (N : Nat → Nat) (Q : Nat → Nat → Nat)     : XM l yX6_tugs cX6_tugs 1 (some .int) D Y A E 4 115 2 12 [.ref (ad 0)] (CA D Y A tE ad F G N Q) (some (.int (vX6_tugs F G N Q))) (eX6_tugs F G N Q) (CA D Y A tE ad F G N Q) := by
  refine XM_of RX6 [(0, .ref (ad 0))] rfl (by decide) hsl (Nat.le_of_ble_eq_true rfl) rfl (lok_of rfl rfl) ?_
  intro p e s m args below meth c C0 hexc
  refine j_ex (fun sa => ?_)
  refine j_ex (fun ma => ?_)
  show J p l e _ s m args below meth c A 1 _ (CO D Y A tE ad (F 0) (F 1) (F 2) (G 0) (G 1) (G 2) (G 3) (G 4) (G 5) (G 6) (G 7) (G 8) (G 9) (G 10) (G 11) (G 12) (G 13) (G 14) (G 15) (G 16) (G 17) (G 18) (G 19) (N 0) (N 1) (N 2) (Q 0) (Q 1) sa ma) 0 0 0 [(0, .ref (ad 0))] []
  refine c_fact (fun cel h => ci_f h) (fun hcf => ?_)
  obtain ⟨hn0, hn1, hn2, hq0, hq1⟩ := hcf
  refine j_aload_n C0 dX6_tugs_0 rfl ?_
  refine c_get C0 in_X6 (ci := 9) rfl 0 (fun cel h => ci_0 h) 2 (by decide) wf_X6_26 rfl dX6_tugs_1 ?_
  refine j_aload_n C0 dX6_tugs_4 rfl ?_
  refine c_get C0 in_X6 (ci := 9) rfl 0 (fun cel h => ci_0 h) 5 (by decide) wf_X6_44 (v := .int ((F 0))) rfl dX6_tugs_5 ?_
  refine j_aload_n C0 dX6_tugs_8 rfl ?_
  refine c_get C0 in_X6 (ci := 9) rfl 0 (fun cel h => ci_0 h) 2 (by decide) wf_X6_26 rfl dX6_tugs_9 ?_
  refine j_callVv C0 (k_X0_count hsl ad F G N Q sa ma    ) mv_X0_count wm_X6_62 (c_recv C0 (ci := 3) rfl 3 (fun cel h => ⟨_, ci_3 h⟩)) rfl rfl ⟨Nat.le_of_ble_eq_true rfl, Nat.le_of_ble_eq_true rfl⟩ (Nat.le_of_ble_eq_true rfl) ⟨Nat.zero_le _, Nat.zero_le _⟩ dX6_tugs_12 ?_
  show J p l e _ s m args below meth c A 1 _ (CO D Y A tE ad (F 0) (F 1) (F 2) (G 0) (G 1) (G 2) (G 3) (G 4) (G 5) (G 6) (G 7) (G 8) (G 9) (G 10) (G 11) (G 12) (G 13) (G 14) (G 15) (G 16) (G 17) (G 18) (G 19) (N 0) (N 1) (N 2) (Q 0) (Q 1) sa ma) 0 0 15 [(0, .ref (ad 0))] [.int (nI (N 1)), .int ((F 0)), .ref (ad 3)]
  refine j_callVv C0 (k_X0_readyTugs hsl ad F G N Q sa ma  ((F 0)) ((N 1))  (Nat.le_refl _)) mv_X0_readyTugs wm_X6_176 (c_recv C0 (ci := 3) rfl 3 (fun cel h => ⟨_, ci_3 h⟩)) rfl rfl ⟨Nat.le_of_ble_eq_true rfl, Nat.le_of_ble_eq_true rfl⟩ (Nat.le_of_ble_eq_true rfl) ⟨Nat.zero_le _, Nat.zero_le _⟩ dX6_tugs_15 ?_
  show J p l e _ s m args below meth c A 1 _ (CO D Y A tE ad (F 0) (F 1) (F 2) (G 0) (G 1) (G 2) (G 3) (G 4) (G 5) (G 6) (G 7) (G 8) (G 9) (G 10) (G 11) (G 12) (G 13) (G 14) (G 15) (G 16) (G 17) (G 18) (G 19) (N 0) (N 1) (N 2) (Q 0) (Q 1) sa ma) 0 0 18 [(0, .ref (ad 0))] [.int ((vX0_readyTugs F G N Q ((F 0)) ((N 1))))]
  refine j_xret (by rw [eX6_tugs]) (Nat.le_of_ble_eq_true rfl) (Nat.le_of_ble_eq_true rfl) ?_
  exact j_iretE C0 rfl (by rw [vX6_tugs]) dX6_tugs_18 (fun H h => ⟨_, _, h⟩)
/-! ## HarborTides.moves()I -/
def eX6_moves (F : Nat → Int32) (G : Nat → Nat → Int32) (N : Nat → Nat) (Q : Nat → Nat → Nat) : Nat := 0
def vX6_moves (F : Nat → Int32) (G : Nat → Nat → Int32) (N : Nat → Nat) (Q : Nat → Nat → Nat) : Int32 := nI (N 1)
set_option maxRecDepth 100000 in
set_option maxHeartbeats 4000000 in
theorem k_X6_moves {l : Launch} (hsl : l.stackTraces = false) {D : va_G} {Y : Nat → ClassId} {A : Nat → Prop} {E : State → Prop} {tE : Nat} {mi : Nat} (hE : ∀ U, E U → EC A tE mi U) (ad : Nat → Nat) (F : Nat → Int32) (G : Nat → Nat → Int32) (N : Nat → Nat) (Q : Nat → Nat → Nat)     : XM l yX6_moves cX6_moves 1 (some .int) D Y A E 2 50 2 12 [.ref (ad 0)] (CA D Y A tE ad F G N Q) (some (.int (vX6_moves F G N Q))) (eX6_moves F G N Q) (CA D Y A tE ad F G N Q) := by
  refine XM_of RX6 [(0, .ref (ad 0))] rfl (by decide) hsl (Nat.le_of_ble_eq_true rfl) rfl (lok_of rfl rfl) ?_
  intro p e s m args below meth c C0 hexc
  refine j_ex (fun sa => ?_)
  refine j_ex (fun ma => ?_)
  show J p l e _ s m args below meth c A 1 _ (CO D Y A tE ad (F 0) (F 1) (F 2) (G 0) (G 1) (G 2) (G 3) (G 4) (G 5) (G 6) (G 7) (G 8) (G 9) (G 10) (G 11) (G 12) (G 13) (G 14) (G 15) (G 16) (G 17) (G 18) (G 19) (N 0) (N 1) (N 2) (Q 0) (Q 1) sa ma) 0 0 0 [(0, .ref (ad 0))] []
  refine c_fact (fun cel h => ci_f h) (fun hcf => ?_)
  obtain ⟨hn0, hn1, hn2, hq0, hq1⟩ := hcf
  refine j_aload_n C0 dX6_moves_0 rfl ?_
  refine c_get C0 in_X6 (ci := 9) rfl 0 (fun cel h => ci_0 h) 2 (by decide) wf_X6_26 rfl dX6_moves_1 ?_
  refine j_callVv C0 (k_X0_count hsl ad F G N Q sa ma    ) mv_X0_count wm_X6_62 (c_recv C0 (ci := 3) rfl 3 (fun cel h => ⟨_, ci_3 h⟩)) rfl rfl ⟨Nat.le_of_ble_eq_true rfl, Nat.le_of_ble_eq_true rfl⟩ (Nat.le_of_ble_eq_true rfl) ⟨Nat.zero_le _, Nat.zero_le _⟩ dX6_moves_4 ?_
  show J p l e _ s m args below meth c A 1 _ (CO D Y A tE ad (F 0) (F 1) (F 2) (G 0) (G 1) (G 2) (G 3) (G 4) (G 5) (G 6) (G 7) (G 8) (G 9) (G 10) (G 11) (G 12) (G 13) (G 14) (G 15) (G 16) (G 17) (G 18) (G 19) (N 0) (N 1) (N 2) (Q 0) (Q 1) sa ma) 0 0 7 [(0, .ref (ad 0))] [.int (nI (N 1))]
  refine j_xret (by rw [eX6_moves]) (Nat.le_of_ble_eq_true rfl) (Nat.le_of_ble_eq_true rfl) ?_
  exact j_iretE C0 rfl (by rw [vX6_moves]) dX6_moves_7 (fun H h => ⟨_, _, h⟩)
/-! ## HarborTides.tugPay()I -/
def eX6_tugPay (F : Nat → Int32) (G : Nat → Nat → Int32) (N : Nat → Nat) (Q : Nat → Nat → Nat) : Nat := 0
def vX6_tugPay (F : Nat → Int32) (G : Nat → Nat → Int32) (N : Nat → Nat) (Q : Nat → Nat → Nat) : Int32 := (F 1)
set_option maxRecDepth 100000 in
set_option maxHeartbeats 4000000 in
theorem k_X6_tugPay {l : Launch} (hsl : l.stackTraces = false) {D : va_G} {Y : Nat → ClassId} {A : Nat → Prop} {E : State → Prop} {tE : Nat} {mi : Nat} (hE : ∀ U, E U → EC A tE mi U) (ad : Nat → Nat) (F : Nat → Int32) (G : Nat → Nat → Int32) (N : Nat → Nat) (Q : Nat → Nat → Nat)     : XM l yX6_tugPay cX6_tugPay 1 (some .int) D Y A E 0 0 2 12 [.ref (ad 0)] (CA D Y A tE ad F G N Q) (some (.int (vX6_tugPay F G N Q))) (eX6_tugPay F G N Q) (CA D Y A tE ad F G N Q) := by
  refine XM_of RX6 [(0, .ref (ad 0))] rfl (by decide) hsl (Nat.le_of_ble_eq_true rfl) rfl (lok_of rfl rfl) ?_
  intro p e s m args below meth c C0 hexc
  refine j_ex (fun sa => ?_)
  refine j_ex (fun ma => ?_)
  show J p l e _ s m args below meth c A 1 _ (CO D Y A tE ad (F 0) (F 1) (F 2) (G 0) (G 1) (G 2) (G 3) (G 4) (G 5) (G 6) (G 7) (G 8) (G 9) (G 10) (G 11) (G 12) (G 13) (G 14) (G 15) (G 16) (G 17) (G 18) (G 19) (N 0) (N 1) (N 2) (Q 0) (Q 1) sa ma) 0 0 0 [(0, .ref (ad 0))] []
  refine c_fact (fun cel h => ci_f h) (fun hcf => ?_)
  obtain ⟨hn0, hn1, hn2, hq0, hq1⟩ := hcf
  refine j_aload_n C0 dX6_tugPay_0 rfl ?_
  refine c_get C0 in_X6 (ci := 9) rfl 0 (fun cel h => ci_0 h) 6 (by decide) wf_X6_48 (v := .int ((F 1))) rfl dX6_tugPay_1 ?_
  refine j_xret (by rw [eX6_tugPay]) (Nat.le_of_ble_eq_true rfl) (Nat.le_of_ble_eq_true rfl) ?_
  exact j_iretE C0 rfl (by rw [vX6_tugPay]) dX6_tugPay_4 (fun H h => ⟨_, _, h⟩)
/-! ## HarborTides.port()I -/
def eX6_port (F : Nat → Int32) (G : Nat → Nat → Int32) (N : Nat → Nat) (Q : Nat → Nat → Nat) : Nat := 0
def vX6_port (F : Nat → Int32) (G : Nat → Nat → Int32) (N : Nat → Nat) (Q : Nat → Nat → Nat) : Int32 := (F 2)
set_option maxRecDepth 100000 in
set_option maxHeartbeats 4000000 in
theorem k_X6_port {l : Launch} (hsl : l.stackTraces = false) {D : va_G} {Y : Nat → ClassId} {A : Nat → Prop} {E : State → Prop} {tE : Nat} {mi : Nat} (hE : ∀ U, E U → EC A tE mi U) (ad : Nat → Nat) (F : Nat → Int32) (G : Nat → Nat → Int32) (N : Nat → Nat) (Q : Nat → Nat → Nat)     : XM l yX6_port cX6_port 1 (some .int) D Y A E 0 0 2 12 [.ref (ad 0)] (CA D Y A tE ad F G N Q) (some (.int (vX6_port F G N Q))) (eX6_port F G N Q) (CA D Y A tE ad F G N Q) := by
  refine XM_of RX6 [(0, .ref (ad 0))] rfl (by decide) hsl (Nat.le_of_ble_eq_true rfl) rfl (lok_of rfl rfl) ?_
  intro p e s m args below meth c C0 hexc
  refine j_ex (fun sa => ?_)
  refine j_ex (fun ma => ?_)
  show J p l e _ s m args below meth c A 1 _ (CO D Y A tE ad (F 0) (F 1) (F 2) (G 0) (G 1) (G 2) (G 3) (G 4) (G 5) (G 6) (G 7) (G 8) (G 9) (G 10) (G 11) (G 12) (G 13) (G 14) (G 15) (G 16) (G 17) (G 18) (G 19) (N 0) (N 1) (N 2) (Q 0) (Q 1) sa ma) 0 0 0 [(0, .ref (ad 0))] []
  refine c_fact (fun cel h => ci_f h) (fun hcf => ?_)
  obtain ⟨hn0, hn1, hn2, hq0, hq1⟩ := hcf
  refine j_aload_n C0 dX6_port_0 rfl ?_
  refine c_get C0 in_X6 (ci := 9) rfl 0 (fun cel h => ci_0 h) 7 (by decide) wf_X6_51 (v := .int ((F 2))) rfl dX6_port_1 ?_
  refine j_xret (by rw [eX6_port]) (Nat.le_of_ble_eq_true rfl) (Nat.le_of_ble_eq_true rfl) ?_
  exact j_iretE C0 rfl (by rw [vX6_port]) dX6_port_4 (fun H h => ⟨_, _, h⟩)
/-! ## HarborTides.rota(I)I -/
def eX6_rota (F : Nat → Int32) (G : Nat → Nat → Int32) (N : Nat → Nat) (Q : Nat → Nat → Nat) (a1 : Int32) : Nat := (if (eX6_checkPlace (a1) ((6 : Int32))) = 0 then 0 else (eX6_checkPlace (a1) ((6 : Int32))))
def vX6_rota (F : Nat → Int32) (G : Nat → Nat → Int32) (N : Nat → Nat) (Q : Nat → Nat → Nat) (a1 : Int32) : Int32 := (if (eX6_checkPlace (a1) ((6 : Int32))) = 0 then ((G 3) (a1).toNatClampNeg) else (0 : Int32))
set_option maxRecDepth 100000 in
set_option maxHeartbeats 4000000 in
theorem k_X6_rota {l : Launch} (hsl : l.stackTraces = false) {D : va_G} {Y : Nat → ClassId} {A : Nat → Prop} {E : State → Prop} {tE : Nat} {mi : Nat} (hE : ∀ U, E U → EC A tE mi U) (ad : Nat → Nat) (F : Nat → Int32) (G : Nat → Nat → Int32) (N : Nat → Nat) (Q : Nat → Nat → Nat)  (a1 : Int32)   : XM l yX6_rota cX6_rota 2 (some .int) D Y A E 7 111 2 12 [.ref (ad 0), .int (a1)] (CA D Y A tE ad F G N Q) (some (.int (vX6_rota F G N Q a1))) (eX6_rota F G N Q a1) (CA D Y A tE ad F G N Q) := by
  refine XM_of RX6 [(0, .ref (ad 0)), (1, .int (a1))] rfl (by decide) hsl (Nat.le_of_ble_eq_true rfl) rfl (lok_of rfl rfl) ?_
  intro p e s m args below meth c C0 hexc
  refine j_ex (fun sa => ?_)
  refine j_ex (fun ma => ?_)
  show J p l e _ s m args below meth c A 2 _ (CO D Y A tE ad (F 0) (F 1) (F 2) (G 0) (G 1) (G 2) (G 3) (G 4) (G 5) (G 6) (G 7) (G 8) (G 9) (G 10) (G 11) (G 12) (G 13) (G 14) (G 15) (G 16) (G 17) (G 18) (G 19) (N 0) (N 1) (N 2) (Q 0) (Q 1) sa ma) 0 0 0 [(0, .ref (ad 0)), (1, .int (a1))] []
  refine c_fact (fun cel h => ci_f h) (fun hcf => ?_)
  obtain ⟨hn0, hn1, hn2, hq0, hq1⟩ := hcf
  refine j_iload_n C0 dX6_rota_0 rfl ?_
  refine j_bipush C0 (v := 6) dX6_rota_1 (by decide) ?_
  refine j_xcallS C0 hexc (k_X6_checkPlace hsl hE (a1) ((6 : Int32)) GW.cw ) ms_X6_checkPlace wm_X6_54 rfl rfl ⟨Nat.le_of_ble_eq_true rfl, Nat.le_of_ble_eq_true rfl⟩ (Nat.le_of_ble_eq_true rfl) ⟨(Nat.le_of_ble_eq_true rfl), (Nat.le_of_ble_eq_true rfl)⟩ dX6_rota_3 ⟨(Nat.le_of_ble_eq_true rfl), (Nat.le_of_ble_eq_true rfl)⟩ (fun (q1 : ¬ (eX6_checkPlace (a1) ((6 : Int32))) = 0) => ⟨by rw [eX6_rota, if_neg q1], fun H h => ⟨_, _, h⟩⟩) (fun (q1 : (eX6_checkPlace (a1) ((6 : Int32))) = 0) => ?_)
  show J p l e _ s m args below meth c A 2 _ (CO D Y A tE ad (F 0) (F 1) (F 2) (G 0) (G 1) (G 2) (G 3) (G 4) (G 5) (G 6) (G 7) (G 8) (G 9) (G 10) (G 11) (G 12) (G 13) (G 14) (G 15) (G 16) (G 17) (G 18) (G 19) (N 0) (N 1) (N 2) (Q 0) (Q 1) sa ma) (0 + 1) (0 + 6) 6 [(0, .ref (ad 0)), (1, .int (a1))] []
  refine j_aload_n C0 dX6_rota_6 rfl ?_
  refine c_get C0 in_X6 (ci := 9) rfl 0 (fun cel h => ci_0 h) 1 (by decide) wf_X6_19 rfl dX6_rota_7 ?_
  refine c_get C0 in_X3 (ci := 6) rfl 2 (fun cel h => ci_2 h) 0 (by decide) wf_X6_169 rfl dX6_rota_10 ?_
  refine j_iload_n C0 dX6_rota_13 rfl ?_
  refine c_iald C0 9 (fun cel h => ci_9 h) (v := ((G 3) (a1).toNatClampNeg)) (cp_ok (n := 6) (by decide) q1) dX6_rota_14 rfl ?_
  refine j_xret (by rw [eX6_rota, if_pos q1]) (Nat.le_of_ble_eq_true rfl) (Nat.le_of_ble_eq_true rfl) ?_
  exact j_iretE C0 rfl (by rw [vX6_rota, if_pos q1]) dX6_rota_15 (fun H h => ⟨_, _, h⟩)
/-! ## HarborTides.earned(I)I -/
def eX6_earned (F : Nat → Int32) (G : Nat → Nat → Int32) (N : Nat → Nat) (Q : Nat → Nat → Nat) (a1 : Int32) : Nat := (if (eX6_checkPlace (a1) ((6 : Int32))) = 0 then 0 else (eX6_checkPlace (a1) ((6 : Int32))))
def vX6_earned (F : Nat → Int32) (G : Nat → Nat → Int32) (N : Nat → Nat) (Q : Nat → Nat → Nat) (a1 : Int32) : Int32 := (if (eX6_checkPlace (a1) ((6 : Int32))) = 0 then ((G 4) (a1).toNatClampNeg) else (0 : Int32))
set_option maxRecDepth 100000 in
set_option maxHeartbeats 4000000 in
theorem k_X6_earned {l : Launch} (hsl : l.stackTraces = false) {D : va_G} {Y : Nat → ClassId} {A : Nat → Prop} {E : State → Prop} {tE : Nat} {mi : Nat} (hE : ∀ U, E U → EC A tE mi U) (ad : Nat → Nat) (F : Nat → Int32) (G : Nat → Nat → Int32) (N : Nat → Nat) (Q : Nat → Nat → Nat)  (a1 : Int32)   : XM l yX6_earned cX6_earned 2 (some .int) D Y A E 7 111 2 12 [.ref (ad 0), .int (a1)] (CA D Y A tE ad F G N Q) (some (.int (vX6_earned F G N Q a1))) (eX6_earned F G N Q a1) (CA D Y A tE ad F G N Q) := by
  refine XM_of RX6 [(0, .ref (ad 0)), (1, .int (a1))] rfl (by decide) hsl (Nat.le_of_ble_eq_true rfl) rfl (lok_of rfl rfl) ?_
  intro p e s m args below meth c C0 hexc
  refine j_ex (fun sa => ?_)
  refine j_ex (fun ma => ?_)
  show J p l e _ s m args below meth c A 2 _ (CO D Y A tE ad (F 0) (F 1) (F 2) (G 0) (G 1) (G 2) (G 3) (G 4) (G 5) (G 6) (G 7) (G 8) (G 9) (G 10) (G 11) (G 12) (G 13) (G 14) (G 15) (G 16) (G 17) (G 18) (G 19) (N 0) (N 1) (N 2) (Q 0) (Q 1) sa ma) 0 0 0 [(0, .ref (ad 0)), (1, .int (a1))] []
  refine c_fact (fun cel h => ci_f h) (fun hcf => ?_)
  obtain ⟨hn0, hn1, hn2, hq0, hq1⟩ := hcf
  refine j_iload_n C0 dX6_earned_0 rfl ?_
  refine j_bipush C0 (v := 6) dX6_earned_1 (by decide) ?_
  refine j_xcallS C0 hexc (k_X6_checkPlace hsl hE (a1) ((6 : Int32)) GW.cw ) ms_X6_checkPlace wm_X6_54 rfl rfl ⟨Nat.le_of_ble_eq_true rfl, Nat.le_of_ble_eq_true rfl⟩ (Nat.le_of_ble_eq_true rfl) ⟨(Nat.le_of_ble_eq_true rfl), (Nat.le_of_ble_eq_true rfl)⟩ dX6_earned_3 ⟨(Nat.le_of_ble_eq_true rfl), (Nat.le_of_ble_eq_true rfl)⟩ (fun (q1 : ¬ (eX6_checkPlace (a1) ((6 : Int32))) = 0) => ⟨by rw [eX6_earned, if_neg q1], fun H h => ⟨_, _, h⟩⟩) (fun (q1 : (eX6_checkPlace (a1) ((6 : Int32))) = 0) => ?_)
  show J p l e _ s m args below meth c A 2 _ (CO D Y A tE ad (F 0) (F 1) (F 2) (G 0) (G 1) (G 2) (G 3) (G 4) (G 5) (G 6) (G 7) (G 8) (G 9) (G 10) (G 11) (G 12) (G 13) (G 14) (G 15) (G 16) (G 17) (G 18) (G 19) (N 0) (N 1) (N 2) (Q 0) (Q 1) sa ma) (0 + 1) (0 + 6) 6 [(0, .ref (ad 0)), (1, .int (a1))] []
  refine j_aload_n C0 dX6_earned_6 rfl ?_
  refine c_get C0 in_X6 (ci := 9) rfl 0 (fun cel h => ci_0 h) 1 (by decide) wf_X6_19 rfl dX6_earned_7 ?_
  refine c_get C0 in_X3 (ci := 6) rfl 2 (fun cel h => ci_2 h) 1 (by decide) wf_X6_214 rfl dX6_earned_10 ?_
  refine j_iload_n C0 dX6_earned_13 rfl ?_
  refine c_iald C0 10 (fun cel h => ci_10 h) (v := ((G 4) (a1).toNatClampNeg)) (cp_ok (n := 6) (by decide) q1) dX6_earned_14 rfl ?_
  refine j_xret (by rw [eX6_earned, if_pos q1]) (Nat.le_of_ble_eq_true rfl) (Nat.le_of_ble_eq_true rfl) ?_
  exact j_iretE C0 rfl (by rw [vX6_earned, if_pos q1]) dX6_earned_15 (fun H h => ⟨_, _, h⟩)
