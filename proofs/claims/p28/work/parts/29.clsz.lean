theorem z_X0_pilotIsReady (F : Nat → Int32) (G : Nat → Nat → Int32) (N : Nat → Nat) (Q : Nat → Nat → Nat) (a1 a2 : Int32) (f : Nat) : vX0_pilotIsReady F G N Q a1 a2 f = 0 ∨ vX0_pilotIsReady F G N Q a1 a2 f = 1 := by
  unfold vX0_pilotIsReady
  generalize bk _ _ _ = b
  rcases b with w | (r | r)
  · dsimp only [bkE]
    split
    · exact Or.inl rfl
    · exact Or.inr rfl
  · dsimp only [bkE]
    split
    · exact Or.inl rfl
    · exact Or.inr rfl
  · exact Or.inl rfl
/-! ## HarborTides.isReady(I)Z -/
def eX6_isReady (F : Nat → Int32) (G : Nat → Nat → Int32) (N : Nat → Nat) (Q : Nat → Nat → Nat) (a1 : Int32) : Nat := (if (eX6_checkPlace (a1) ((6 : Int32))) = 0 then 0 else (eX6_checkPlace (a1) ((6 : Int32))))
def vX6_isReady (F : Nat → Int32) (G : Nat → Nat → Int32) (N : Nat → Nat) (Q : Nat → Nat → Nat) (a1 : Int32) : Int32 := (if (eX6_checkPlace (a1) ((6 : Int32))) = 0 then (vX0_pilotIsReady F G N Q (a1) ((F 0)) ((N 1))) else (0 : Int32))
set_option maxRecDepth 100000 in
set_option maxHeartbeats 4000000 in
theorem k_X6_isReady {l : Launch} (hsl : l.stackTraces = false) {D : va_G} {Y : Nat → ClassId} {A : Nat → Prop} {E : State → Prop} {tE : Nat} {mi : Nat} (hE : ∀ U, E U → EC A tE mi U) (ad : Nat → Nat) (F : Nat → Int32) (G : Nat → Nat → Int32) (N : Nat → Nat) (Q : Nat → Nat → Nat)  (a1 : Int32)   : XM l yX6_isReady cX6_isReady 2 (some .boolean) D Y A E 7 117 2 12 [.ref (ad 0), .int (a1)] (CA D Y A tE ad F G N Q) (some (.int (vX6_isReady F G N Q a1))) (eX6_isReady F G N Q a1) (CA D Y A tE ad F G N Q) := by
  refine XM_of RX6 [(0, .ref (ad 0)), (1, .int (a1))] rfl (by decide) hsl (Nat.le_of_ble_eq_true rfl) rfl (lok_of rfl rfl) ?_
  intro p e s m args below meth c C0 hexc
  refine j_ex (fun sa => ?_)
  refine j_ex (fun ma => ?_)
  show J p l e _ s m args below meth c A 2 _ (CO D Y A tE ad (F 0) (F 1) (F 2) (G 0) (G 1) (G 2) (G 3) (G 4) (G 5) (G 6) (G 7) (G 8) (G 9) (G 10) (G 11) (G 12) (G 13) (G 14) (G 15) (G 16) (G 17) (G 18) (G 19) (N 0) (N 1) (N 2) (Q 0) (Q 1) sa ma) 0 0 0 [(0, .ref (ad 0)), (1, .int (a1))] []
  refine c_fact (fun cel h => ci_f h) (fun hcf => ?_)
  obtain ⟨hn0, hn1, hn2, hq0, hq1⟩ := hcf
  refine j_iload_n C0 dX6_isReady_0 rfl ?_
  refine j_bipush C0 (v := 6) dX6_isReady_1 (by decide) ?_
  refine j_xcallS C0 hexc (k_X6_checkPlace hsl hE (a1) ((6 : Int32)) GW.cw ) ms_X6_checkPlace wm_X6_54 rfl rfl ⟨Nat.le_of_ble_eq_true rfl, Nat.le_of_ble_eq_true rfl⟩ (Nat.le_of_ble_eq_true rfl) ⟨(Nat.le_of_ble_eq_true rfl), (Nat.le_of_ble_eq_true rfl)⟩ dX6_isReady_3 ⟨(Nat.le_of_ble_eq_true rfl), (Nat.le_of_ble_eq_true rfl)⟩ (fun (q1 : ¬ (eX6_checkPlace (a1) ((6 : Int32))) = 0) => ⟨by rw [eX6_isReady, if_neg q1], fun H h => ⟨_, _, h⟩⟩) (fun (q1 : (eX6_checkPlace (a1) ((6 : Int32))) = 0) => ?_)
  show J p l e _ s m args below meth c A 2 _ (CO D Y A tE ad (F 0) (F 1) (F 2) (G 0) (G 1) (G 2) (G 3) (G 4) (G 5) (G 6) (G 7) (G 8) (G 9) (G 10) (G 11) (G 12) (G 13) (G 14) (G 15) (G 16) (G 17) (G 18) (G 19) (N 0) (N 1) (N 2) (Q 0) (Q 1) sa ma) (0 + 1) (0 + 6) 6 [(0, .ref (ad 0)), (1, .int (a1))] []
  refine j_aload_n C0 dX6_isReady_6 rfl ?_
  refine c_get C0 in_X6 (ci := 9) rfl 0 (fun cel h => ci_0 h) 2 (by decide) wf_X6_26 rfl dX6_isReady_7 ?_
  refine j_iload_n C0 dX6_isReady_10 rfl ?_
  refine j_aload_n C0 dX6_isReady_11 rfl ?_
  refine c_get C0 in_X6 (ci := 9) rfl 0 (fun cel h => ci_0 h) 5 (by decide) wf_X6_44 (v := .int ((F 0))) rfl dX6_isReady_12 ?_
  refine j_aload_n C0 dX6_isReady_15 rfl ?_
  refine c_get C0 in_X6 (ci := 9) rfl 0 (fun cel h => ci_0 h) 2 (by decide) wf_X6_26 rfl dX6_isReady_16 ?_
  refine j_callVv C0 (k_X0_count hsl ad F G N Q sa ma    ) mv_X0_count wm_X6_62 (c_recv C0 (ci := 3) rfl 3 (fun cel h => ⟨_, ci_3 h⟩)) rfl rfl ⟨Nat.le_of_ble_eq_true rfl, Nat.le_of_ble_eq_true rfl⟩ (Nat.le_of_ble_eq_true rfl) ⟨(Nat.le_of_ble_eq_true rfl), (Nat.le_of_ble_eq_true rfl)⟩ dX6_isReady_19 ?_
  show J p l e _ s m args below meth c A 2 _ (CO D Y A tE ad (F 0) (F 1) (F 2) (G 0) (G 1) (G 2) (G 3) (G 4) (G 5) (G 6) (G 7) (G 8) (G 9) (G 10) (G 11) (G 12) (G 13) (G 14) (G 15) (G 16) (G 17) (G 18) (G 19) (N 0) (N 1) (N 2) (Q 0) (Q 1) sa ma) (0 + 1) (0 + 6) 22 [(0, .ref (ad 0)), (1, .int (a1))] [.int (nI (N 1)), .int ((F 0)), .int (a1), .ref (ad 3)]
  refine j_callVv C0 (k_X0_pilotIsReady hsl ad F G N Q sa ma  (a1) ((F 0)) ((N 1))  (Nat.le_refl _)) mv_X0_pilotIsReady wm_X6_172 (c_recv C0 (ci := 3) rfl 3 (fun cel h => ⟨_, ci_3 h⟩)) rfl rfl ⟨Nat.le_of_ble_eq_true rfl, Nat.le_of_ble_eq_true rfl⟩ (Nat.le_of_ble_eq_true rfl) ⟨(Nat.le_of_ble_eq_true rfl), (Nat.le_of_ble_eq_true rfl)⟩ dX6_isReady_22 ?_
  show J p l e _ s m args below meth c A 2 _ (CO D Y A tE ad (F 0) (F 1) (F 2) (G 0) (G 1) (G 2) (G 3) (G 4) (G 5) (G 6) (G 7) (G 8) (G 9) (G 10) (G 11) (G 12) (G 13) (G 14) (G 15) (G 16) (G 17) (G 18) (G 19) (N 0) (N 1) (N 2) (Q 0) (Q 1) sa ma) (0 + 1) (0 + 6) 25 [(0, .ref (ad 0)), (1, .int (a1))] [.int ((vX0_pilotIsReady F G N Q (a1) ((F 0)) ((N 1))))]
  refine j_xret (by rw [eX6_isReady, if_pos q1]) (Nat.le_of_ble_eq_true rfl) (Nat.le_of_ble_eq_true rfl) ?_
  exact j_zretE C0 rfl (by rw [vX6_isReady, if_pos q1]) (nb_of (z_X0_pilotIsReady _ _ _ _ _ _ _)) dX6_isReady_25 (fun H h => ⟨_, _, h⟩)
/-! ## HarborTides.swap(II)I -/
def eX6_swap (F : Nat → Int32) (G : Nat → Nat → Int32) (N : Nat → Nat) (Q : Nat → Nat → Nat) (a1 : Int32) (a2 : Int32) : Nat := (if (eX6_checkPlace (a1) ((6 : Int32))) = 0 then (if (eX6_checkPlace (a2) ((6 : Int32))) = 0 then (if a1 = a2 then 2 else 0) else (eX6_checkPlace (a2) ((6 : Int32)))) else (eX6_checkPlace (a1) ((6 : Int32))))
def vX6_swap (F : Nat → Int32) (G : Nat → Nat → Int32) (N : Nat → Nat) (Q : Nat → Nat → Nat) (a1 : Int32) (a2 : Int32) : Int32 := (if (eX6_checkPlace (a1) ((6 : Int32))) = 0 then (if (eX6_checkPlace (a2) ((6 : Int32))) = 0 then (if a1 = a2 then (0 : Int32) else (vX3_exchange F G N Q (a1) (a2))) else (0 : Int32)) else (0 : Int32))
def sX6_swap (F : Nat → Int32) (G : Nat → Nat → Int32) (N : Nat → Nat) (Q : Nat → Nat → Nat) (a1 : Int32) (a2 : Int32) : (Nat → Int32) := (if (eX6_checkPlace (a1) ((6 : Int32))) = 0 then (if (eX6_checkPlace (a2) ((6 : Int32))) = 0 then (if a1 = a2 then ((G 3)) else ((sX3_exchange F G N Q (a1) (a2)))) else ((G 3))) else ((G 3)))
set_option maxRecDepth 100000 in
set_option maxHeartbeats 4000000 in
theorem k_X6_swap {l : Launch} (hsl : l.stackTraces = false) {D : va_G} {Y : Nat → ClassId} {A : Nat → Prop} {E : State → Prop} {tE : Nat} {mi : Nat} (hE : ∀ U, E U → EC A tE mi U) (ad : Nat → Nat) (F : Nat → Int32) (G : Nat → Nat → Int32) (N : Nat → Nat) (Q : Nat → Nat → Nat)  (a1 : Int32) (a2 : Int32)   : XM l yX6_swap cX6_swap 3 (some .int) D Y A E 7 111 8 300 [.ref (ad 0), .int (a1), .int (a2)] (CA D Y A tE ad F G N Q) (some (.int (vX6_swap F G N Q a1 a2))) (eX6_swap F G N Q a1 a2) (CA D Y A tE ad F (hu G 3 (sX6_swap F G N Q a1 a2)) N Q) := by
  refine XM_of RX6 [(0, .ref (ad 0)), (1, .int (a1)), (2, .int (a2))] rfl (by decide) hsl (Nat.le_of_ble_eq_true rfl) rfl (lok_of rfl rfl) ?_
  intro p e s m args below meth c C0 hexc
  refine j_ex (fun sa => ?_)
  refine j_ex (fun ma => ?_)
  show J p l e _ s m args below meth c A 3 _ (CO D Y A tE ad (F 0) (F 1) (F 2) (G 0) (G 1) (G 2) (G 3) (G 4) (G 5) (G 6) (G 7) (G 8) (G 9) (G 10) (G 11) (G 12) (G 13) (G 14) (G 15) (G 16) (G 17) (G 18) (G 19) (N 0) (N 1) (N 2) (Q 0) (Q 1) sa ma) 0 0 0 [(0, .ref (ad 0)), (1, .int (a1)), (2, .int (a2))] []
  refine c_fact (fun cel h => ci_f h) (fun hcf => ?_)
  obtain ⟨hn0, hn1, hn2, hq0, hq1⟩ := hcf
  refine j_iload_n C0 dX6_swap_0 rfl ?_
  refine j_bipush C0 (v := 6) dX6_swap_1 (by decide) ?_
  refine j_xcallS C0 hexc (k_X6_checkPlace hsl hE (a1) ((6 : Int32)) GW.cw ) ms_X6_checkPlace wm_X6_54 rfl rfl ⟨Nat.le_of_ble_eq_true rfl, Nat.le_of_ble_eq_true rfl⟩ (Nat.le_of_ble_eq_true rfl) ⟨(Nat.le_of_ble_eq_true rfl), (Nat.le_of_ble_eq_true rfl)⟩ dX6_swap_3 ⟨(Nat.le_of_ble_eq_true rfl), (Nat.le_of_ble_eq_true rfl)⟩ (fun (q1 : ¬ (eX6_checkPlace (a1) ((6 : Int32))) = 0) => ⟨by rw [eX6_swap, if_neg q1], fun H h => by rw [sX6_swap, if_neg q1]; exact ⟨_, _, h⟩⟩) (fun (q1 : (eX6_checkPlace (a1) ((6 : Int32))) = 0) => ?_)
  show J p l e _ s m args below meth c A 3 _ (CO D Y A tE ad (F 0) (F 1) (F 2) (G 0) (G 1) (G 2) (G 3) (G 4) (G 5) (G 6) (G 7) (G 8) (G 9) (G 10) (G 11) (G 12) (G 13) (G 14) (G 15) (G 16) (G 17) (G 18) (G 19) (N 0) (N 1) (N 2) (Q 0) (Q 1) sa ma) (0 + 1) (0 + 6) 6 [(0, .ref (ad 0)), (1, .int (a1)), (2, .int (a2))] []
  refine j_iload_n C0 dX6_swap_6 rfl ?_
  refine j_bipush C0 (v := 6) dX6_swap_7 (by decide) ?_
  refine j_xcallS C0 hexc (k_X6_checkPlace hsl hE (a2) ((6 : Int32)) GW.cw ) ms_X6_checkPlace wm_X6_54 rfl rfl ⟨Nat.le_of_ble_eq_true rfl, Nat.le_of_ble_eq_true rfl⟩ (Nat.le_of_ble_eq_true rfl) ⟨(Nat.le_of_ble_eq_true rfl), (Nat.le_of_ble_eq_true rfl)⟩ dX6_swap_9 ⟨(Nat.le_of_ble_eq_true rfl), (Nat.le_of_ble_eq_true rfl)⟩ (fun (q2 : ¬ (eX6_checkPlace (a2) ((6 : Int32))) = 0) => ⟨by rw [eX6_swap, if_pos q1, if_neg q2], fun H h => by rw [sX6_swap, if_pos q1, if_neg q2]; exact ⟨_, _, h⟩⟩) (fun (q2 : (eX6_checkPlace (a2) ((6 : Int32))) = 0) => ?_)
  show J p l e _ s m args below meth c A 3 _ (CO D Y A tE ad (F 0) (F 1) (F 2) (G 0) (G 1) (G 2) (G 3) (G 4) (G 5) (G 6) (G 7) (G 8) (G 9) (G 10) (G 11) (G 12) (G 13) (G 14) (G 15) (G 16) (G 17) (G 18) (G 19) (N 0) (N 1) (N 2) (Q 0) (Q 1) sa ma) ((0 + 1) + 1) ((0 + 6) + 6) 12 [(0, .ref (ad 0)), (1, .int (a1)), (2, .int (a2))] []
  refine j_iload_n C0 dX6_swap_12 rfl ?_
  refine j_iload_n C0 dX6_swap_13 rfl ?_
  refine j_icmp_ne C0 27 dX6_swap_14 (by decide) (fun (q3 : ¬ (a1 = a2)) => ?_) (fun (q3 : a1 = a2) => ?_)
  ·
    refine j_aload_n C0 dX6_swap_27 rfl ?_
    refine c_get C0 in_X6 (ci := 9) rfl 0 (fun cel h => ci_0 h) 1 (by decide) wf_X6_19 rfl dX6_swap_28 ?_
    refine j_iload_n C0 dX6_swap_31 rfl ?_
    refine j_iload_n C0 dX6_swap_32 rfl ?_
    refine j_callVv C0 (k_X3_exchange hsl ad F G N Q sa ma  (a1) (a2)  ) mv_X3_exchange wm_X6_165 (c_recv C0 (ci := 6) rfl 2 (fun cel h => ⟨_, ci_2 h⟩)) rfl rfl ⟨Nat.le_of_ble_eq_true rfl, Nat.le_of_ble_eq_true rfl⟩ (Nat.le_of_ble_eq_true rfl) ⟨(Nat.le_of_ble_eq_true rfl), (Nat.le_of_ble_eq_true rfl)⟩ dX6_swap_33 ?_
    show J p l e _ s m args below meth c A 3 _ (CO D Y A tE ad (F 0) (F 1) (F 2) (G 0) (G 1) (G 2) (sX3_exchange F G N Q (a1) (a2)) (G 4) (G 5) (G 6) (G 7) (G 8) (G 9) (G 10) (G 11) (G 12) (G 13) (G 14) (G 15) (G 16) (G 17) (G 18) (G 19) (N 0) (N 1) (N 2) (Q 0) (Q 1) sa ma) ((0 + 1) + 1) ((0 + 6) + 6) 36 [(0, .ref (ad 0)), (1, .int (a1)), (2, .int (a2))] [.int ((vX3_exchange F G N Q (a1) (a2)))]
    refine j_xret (by rw [eX6_swap, if_pos q1, if_pos q2, if_neg q3]) (Nat.le_of_ble_eq_true rfl) (Nat.le_of_ble_eq_true rfl) ?_
    exact j_iretE C0 rfl (by rw [vX6_swap, if_pos q1, if_pos q2, if_neg q3]) dX6_swap_36 (fun H h => by rw [sX6_swap, if_pos q1, if_pos q2, if_neg q3]; exact ⟨_, _, h⟩)
  ·
    exact j_throw C0 hexc hE (text := "both pilots are the same") rfl (by decide) at_A ag_A (by decide) dX6_swap_17 dX6_swap_20 dX6_swap_21 dX6_swap_23 dX6_swap_26 (by rw [eX6_swap, if_pos q1, if_pos q2, if_pos q3]; decide) (by rw [eX6_swap, if_pos q1, if_pos q2, if_pos q3]; rfl) GW.cw (fun H h => by rw [sX6_swap, if_pos q1, if_pos q2, if_pos q3]; exact ⟨_, _, h⟩) (Nat.le_of_ble_eq_true rfl) (Nat.le_of_ble_eq_true rfl) (Nat.le_of_ble_eq_true rfl) (Nat.le_of_ble_eq_true rfl) (Nat.le_of_ble_eq_true rfl) (Nat.le_of_ble_eq_true rfl)
/-! ## HarborTides.depth(I)I -/
def eX6_depth (F : Nat → Int32) (G : Nat → Nat → Int32) (N : Nat → Nat) (Q : Nat → Nat → Nat) (a1 : Int32) : Nat := (if (eX6_checkRange (a1) ((0 : Int32)) ((3100 : Int32))) = 0 then 0 else (eX6_checkRange (a1) ((0 : Int32)) ((3100 : Int32))))
def vX6_depth (F : Nat → Int32) (G : Nat → Nat → Int32) (N : Nat → Nat) (Q : Nat → Nat → Nat) (a1 : Int32) : Int32 := (if (eX6_checkRange (a1) ((0 : Int32)) ((3100 : Int32))) = 0 then (vX5_depthAt F G N Q (a1)) else (0 : Int32))
set_option maxRecDepth 100000 in
set_option maxHeartbeats 4000000 in
theorem k_X6_depth {l : Launch} (hsl : l.stackTraces = false) {D : va_G} {Y : Nat → ClassId} {A : Nat → Prop} {E : State → Prop} {tE : Nat} {mi : Nat} (hE : ∀ U, E U → EC A tE mi U) (ad : Nat → Nat) (F : Nat → Int32) (G : Nat → Nat → Int32) (N : Nat → Nat) (Q : Nat → Nat → Nat)  (a1 : Int32)   : XM l yX6_depth cX6_depth 2 (some .int) D Y A E 7 112 2 12 [.ref (ad 0), .int (a1)] (CA D Y A tE ad F G N Q) (some (.int (vX6_depth F G N Q a1))) (eX6_depth F G N Q a1) (CA D Y A tE ad F G N Q) := by
  refine XM_of RX6 [(0, .ref (ad 0)), (1, .int (a1))] rfl (by decide) hsl (Nat.le_of_ble_eq_true rfl) rfl (lok_of rfl rfl) ?_
  intro p e s m args below meth c C0 hexc
  refine j_ex (fun sa => ?_)
  refine j_ex (fun ma => ?_)
  show J p l e _ s m args below meth c A 2 _ (CO D Y A tE ad (F 0) (F 1) (F 2) (G 0) (G 1) (G 2) (G 3) (G 4) (G 5) (G 6) (G 7) (G 8) (G 9) (G 10) (G 11) (G 12) (G 13) (G 14) (G 15) (G 16) (G 17) (G 18) (G 19) (N 0) (N 1) (N 2) (Q 0) (Q 1) sa ma) 0 0 0 [(0, .ref (ad 0)), (1, .int (a1))] []
  refine c_fact (fun cel h => ci_f h) (fun hcf => ?_)
  obtain ⟨hn0, hn1, hn2, hq0, hq1⟩ := hcf
  refine j_iload_n C0 dX6_depth_0 rfl ?_
  refine j_iconst C0 (v := 0) dX6_depth_1 (by decide) ?_
  refine j_sipush C0 (v := 3100) dX6_depth_2 (by decide) ?_
  refine j_xcallS C0 hexc (k_X6_checkRange hsl hE (a1) ((0 : Int32)) ((3100 : Int32)) GW.cw ) ms_X6_checkRange wm_X6_58 rfl rfl ⟨Nat.le_of_ble_eq_true rfl, Nat.le_of_ble_eq_true rfl⟩ (Nat.le_of_ble_eq_true rfl) ⟨(Nat.le_of_ble_eq_true rfl), (Nat.le_of_ble_eq_true rfl)⟩ dX6_depth_5 ⟨(Nat.le_of_ble_eq_true rfl), (Nat.le_of_ble_eq_true rfl)⟩ (fun (q1 : ¬ (eX6_checkRange (a1) ((0 : Int32)) ((3100 : Int32))) = 0) => ⟨by rw [eX6_depth, if_neg q1], fun H h => ⟨_, _, h⟩⟩) (fun (q1 : (eX6_checkRange (a1) ((0 : Int32)) ((3100 : Int32))) = 0) => ?_)
  show J p l e _ s m args below meth c A 2 _ (CO D Y A tE ad (F 0) (F 1) (F 2) (G 0) (G 1) (G 2) (G 3) (G 4) (G 5) (G 6) (G 7) (G 8) (G 9) (G 10) (G 11) (G 12) (G 13) (G 14) (G 15) (G 16) (G 17) (G 18) (G 19) (N 0) (N 1) (N 2) (Q 0) (Q 1) sa ma) (0 + 1) (0 + 6) 8 [(0, .ref (ad 0)), (1, .int (a1))] []
  refine j_aload_n C0 dX6_depth_8 rfl ?_
  refine c_get C0 in_X6 (ci := 9) rfl 0 (fun cel h => ci_0 h) 0 (by decide) wf_X6_10 rfl dX6_depth_9 ?_
  refine j_iload_n C0 dX6_depth_12 rfl ?_
  refine j_callVv C0 (k_X5_depthAt hsl ad F G N Q sa ma  (a1)  (cr_vp (n := 3101) q1 (by decide))) mv_X5_depthAt wm_X6_83 (c_recv C0 (ci := 8) rfl 1 (fun cel h => ⟨_, ci_1 h⟩)) rfl rfl ⟨Nat.le_of_ble_eq_true rfl, Nat.le_of_ble_eq_true rfl⟩ (Nat.le_of_ble_eq_true rfl) ⟨(Nat.le_of_ble_eq_true rfl), (Nat.le_of_ble_eq_true rfl)⟩ dX6_depth_13 ?_
  show J p l e _ s m args below meth c A 2 _ (CO D Y A tE ad (F 0) (F 1) (F 2) (G 0) (G 1) (G 2) (G 3) (G 4) (G 5) (G 6) (G 7) (G 8) (G 9) (G 10) (G 11) (G 12) (G 13) (G 14) (G 15) (G 16) (G 17) (G 18) (G 19) (N 0) (N 1) (N 2) (Q 0) (Q 1) sa ma) (0 + 1) (0 + 6) 16 [(0, .ref (ad 0)), (1, .int (a1))] [.int ((vX5_depthAt F G N Q (a1)))]
  refine j_xret (by rw [eX6_depth, if_pos q1]) (Nat.le_of_ble_eq_true rfl) (Nat.le_of_ble_eq_true rfl) ?_
  exact j_iretE C0 rfl (by rw [vX6_depth, if_pos q1]) dX6_depth_16 (fun H h => ⟨_, _, h⟩)
/-! ## HarborTides.table(II)I -/
def eX6_table (F : Nat → Int32) (G : Nat → Nat → Int32) (N : Nat → Nat) (Q : Nat → Nat → Nat) (a1 : Int32) (a2 : Int32) : Nat := (if (eX6_checkPlace (a1) ((12 : Int32))) = 0 then (if (eX6_checkRange (a2) ((0 : Int32)) ((150 : Int32))) = 0 then (if nI (N 1) ≤ 0 then 0 else 3) else (eX6_checkRange (a2) ((0 : Int32)) ((150 : Int32)))) else (eX6_checkPlace (a1) ((12 : Int32))))
def vX6_table (F : Nat → Int32) (G : Nat → Nat → Int32) (N : Nat → Nat) (Q : Nat → Nat → Nat) (a1 : Int32) (a2 : Int32) : Int32 := (if (eX6_checkPlace (a1) ((12 : Int32))) = 0 then (if (eX6_checkRange (a2) ((0 : Int32)) ((150 : Int32))) = 0 then (if nI (N 1) ≤ 0 then ((G 0) (a1).toNatClampNeg) else (0 : Int32)) else (0 : Int32)) else (0 : Int32))
def sX6_table (F : Nat → Int32) (G : Nat → Nat → Int32) (N : Nat → Nat) (Q : Nat → Nat → Nat) (a1 : Int32) (a2 : Int32) : (Nat → Int32) := (if (eX6_checkPlace (a1) ((12 : Int32))) = 0 then (if (eX6_checkRange (a2) ((0 : Int32)) ((150 : Int32))) = 0 then (if nI (N 1) ≤ 0 then ((upd (G 0) (a1).toNatClampNeg (a2))) else ((G 0))) else ((G 0))) else ((G 0)))
set_option maxRecDepth 100000 in
set_option maxHeartbeats 4000000 in
theorem k_X6_table {l : Launch} (hsl : l.stackTraces = false) {D : va_G} {Y : Nat → ClassId} {A : Nat → Prop} {E : State → Prop} {tE : Nat} {mi : Nat} (hE : ∀ U, E U → EC A tE mi U) (ad : Nat → Nat) (F : Nat → Int32) (G : Nat → Nat → Int32) (N : Nat → Nat) (Q : Nat → Nat → Nat)  (a1 : Int32) (a2 : Int32)   : XM l yX6_table cX6_table 4 (some .int) D Y A E 7 112 8 300 [.ref (ad 0), .int (a1), .int (a2)] (CA D Y A tE ad F G N Q) (some (.int (vX6_table F G N Q a1 a2))) (eX6_table F G N Q a1 a2) (CA D Y A tE ad F (hu G 0 (sX6_table F G N Q a1 a2)) N Q) := by
  refine XM_of RX6 [(0, .ref (ad 0)), (1, .int (a1)), (2, .int (a2))] rfl (by decide) hsl (Nat.le_of_ble_eq_true rfl) rfl (lok_of rfl rfl) ?_
  intro p e s m args below meth c C0 hexc
  refine j_ex (fun sa => ?_)
  refine j_ex (fun ma => ?_)
  show J p l e _ s m args below meth c A 4 _ (CO D Y A tE ad (F 0) (F 1) (F 2) (G 0) (G 1) (G 2) (G 3) (G 4) (G 5) (G 6) (G 7) (G 8) (G 9) (G 10) (G 11) (G 12) (G 13) (G 14) (G 15) (G 16) (G 17) (G 18) (G 19) (N 0) (N 1) (N 2) (Q 0) (Q 1) sa ma) 0 0 0 [(0, .ref (ad 0)), (1, .int (a1)), (2, .int (a2))] []
  refine c_fact (fun cel h => ci_f h) (fun hcf => ?_)
  obtain ⟨hn0, hn1, hn2, hq0, hq1⟩ := hcf
  refine j_iload_n C0 dX6_table_0 rfl ?_
  refine j_bipush C0 (v := 12) dX6_table_1 (by decide) ?_
  refine j_xcallS C0 hexc (k_X6_checkPlace hsl hE (a1) ((12 : Int32)) GW.cw ) ms_X6_checkPlace wm_X6_54 rfl rfl ⟨Nat.le_of_ble_eq_true rfl, Nat.le_of_ble_eq_true rfl⟩ (Nat.le_of_ble_eq_true rfl) ⟨(Nat.le_of_ble_eq_true rfl), (Nat.le_of_ble_eq_true rfl)⟩ dX6_table_3 ⟨(Nat.le_of_ble_eq_true rfl), (Nat.le_of_ble_eq_true rfl)⟩ (fun (q1 : ¬ (eX6_checkPlace (a1) ((12 : Int32))) = 0) => ⟨by rw [eX6_table, if_neg q1], fun H h => by rw [sX6_table, if_neg q1]; exact ⟨_, _, h⟩⟩) (fun (q1 : (eX6_checkPlace (a1) ((12 : Int32))) = 0) => ?_)
  show J p l e _ s m args below meth c A 4 _ (CO D Y A tE ad (F 0) (F 1) (F 2) (G 0) (G 1) (G 2) (G 3) (G 4) (G 5) (G 6) (G 7) (G 8) (G 9) (G 10) (G 11) (G 12) (G 13) (G 14) (G 15) (G 16) (G 17) (G 18) (G 19) (N 0) (N 1) (N 2) (Q 0) (Q 1) sa ma) (0 + 1) (0 + 6) 6 [(0, .ref (ad 0)), (1, .int (a1)), (2, .int (a2))] []
  refine j_iload_n C0 dX6_table_6 rfl ?_
  refine j_iconst C0 (v := 0) dX6_table_7 (by decide) ?_
  refine j_sipush C0 (v := 150) dX6_table_8 (by decide) ?_
  refine j_xcallS C0 hexc (k_X6_checkRange hsl hE (a2) ((0 : Int32)) ((150 : Int32)) GW.cw ) ms_X6_checkRange wm_X6_58 rfl rfl ⟨Nat.le_of_ble_eq_true rfl, Nat.le_of_ble_eq_true rfl⟩ (Nat.le_of_ble_eq_true rfl) ⟨(Nat.le_of_ble_eq_true rfl), (Nat.le_of_ble_eq_true rfl)⟩ dX6_table_11 ⟨(Nat.le_of_ble_eq_true rfl), (Nat.le_of_ble_eq_true rfl)⟩ (fun (q2 : ¬ (eX6_checkRange (a2) ((0 : Int32)) ((150 : Int32))) = 0) => ⟨by rw [eX6_table, if_pos q1, if_neg q2], fun H h => by rw [sX6_table, if_pos q1, if_neg q2]; exact ⟨_, _, h⟩⟩) (fun (q2 : (eX6_checkRange (a2) ((0 : Int32)) ((150 : Int32))) = 0) => ?_)
  show J p l e _ s m args below meth c A 4 _ (CO D Y A tE ad (F 0) (F 1) (F 2) (G 0) (G 1) (G 2) (G 3) (G 4) (G 5) (G 6) (G 7) (G 8) (G 9) (G 10) (G 11) (G 12) (G 13) (G 14) (G 15) (G 16) (G 17) (G 18) (G 19) (N 0) (N 1) (N 2) (Q 0) (Q 1) sa ma) ((0 + 1) + 1) ((0 + 6) + 6) 14 [(0, .ref (ad 0)), (1, .int (a1)), (2, .int (a2))] []
  refine j_aload_n C0 dX6_table_14 rfl ?_
  refine c_get C0 in_X6 (ci := 9) rfl 0 (fun cel h => ci_0 h) 2 (by decide) wf_X6_26 rfl dX6_table_15 ?_
  refine j_callVv C0 (k_X0_count hsl ad F G N Q sa ma    ) mv_X0_count wm_X6_62 (c_recv C0 (ci := 3) rfl 3 (fun cel h => ⟨_, ci_3 h⟩)) rfl rfl ⟨Nat.le_of_ble_eq_true rfl, Nat.le_of_ble_eq_true rfl⟩ (Nat.le_of_ble_eq_true rfl) ⟨(Nat.le_of_ble_eq_true rfl), (Nat.le_of_ble_eq_true rfl)⟩ dX6_table_18 ?_
  show J p l e _ s m args below meth c A 4 _ (CO D Y A tE ad (F 0) (F 1) (F 2) (G 0) (G 1) (G 2) (G 3) (G 4) (G 5) (G 6) (G 7) (G 8) (G 9) (G 10) (G 11) (G 12) (G 13) (G 14) (G 15) (G 16) (G 17) (G 18) (G 19) (N 0) (N 1) (N 2) (Q 0) (Q 1) sa ma) ((0 + 1) + 1) ((0 + 6) + 6) 21 [(0, .ref (ad 0)), (1, .int (a1)), (2, .int (a2))] [.int (nI (N 1))]
  refine j_if_le C0 34 dX6_table_21 (by decide) (fun (q3 : nI (N 1) ≤ 0) => ?_) (fun (q3 : ¬ (nI (N 1) ≤ 0)) => ?_)
  ·
    refine j_aload_n C0 dX6_table_34 rfl ?_
    refine c_get C0 in_X6 (ci := 9) rfl 0 (fun cel h => ci_0 h) 0 (by decide) wf_X6_10 rfl dX6_table_35 ?_
    refine c_get C0 in_X5 (ci := 8) rfl 1 (fun cel h => ci_1 h) 0 (by decide) wf_X6_73 rfl dX6_table_38 ?_
    refine j_iload_n C0 dX6_table_41 rfl ?_
    refine c_iald C0 6 (fun cel h => ci_6 h) (v := ((G 0) (a1).toNatClampNeg)) (cp_ok (n := 12) (by decide) q1) dX6_table_42 rfl ?_
    refine j_istore_n C0 (L' := [(0, .ref (ad 0)), (1, .int (a1)), (2, .int (a2)), (3, .int (((G 0) (a1).toNatClampNeg)))]) dX6_table_43 (by decide) rfl ?_
    refine j_aload_n C0 dX6_table_44 rfl ?_
    refine c_get C0 in_X6 (ci := 9) rfl 0 (fun cel h => ci_0 h) 0 (by decide) wf_X6_10 rfl dX6_table_45 ?_
    refine c_get C0 in_X5 (ci := 8) rfl 1 (fun cel h => ci_1 h) 0 (by decide) wf_X6_73 rfl dX6_table_48 ?_
    refine j_iload_n C0 dX6_table_51 rfl ?_
    refine j_iload_n C0 dX6_table_52 rfl ?_
    refine c_iast C0 (P := (CIV Y tE ad (F 0) (F 1) (F 2) (G 0) (G 1) (G 2) (G 3) (G 4) (G 5) (G 6) (G 7) (G 8) (G 9) (G 10) (G 11) (G 12) (G 13) (G 14) (G 15) (G 16) (G 17) (G 18) (G 19) (N 0) (N 1) (N 2) (Q 0) (Q 1) sa ma)) (P' := (CIV Y tE ad (F 0) (F 1) (F 2) (upd (G 0) (a1).toNatClampNeg (a2)) (G 1) (G 2) (G 3) (G 4) (G 5) (G 6) (G 7) (G 8) (G 9) (G 10) (G 11) (G 12) (G 13) (G 14) (G 15) (G 16) (G 17) (G 18) (G 19) (N 0) (N 1) (N 2) (Q 0) (Q 1) sa ma)) 6 (fun cel h => ci_6 h) (cp_ok (n := 12) (by decide) q1) dX6_table_53 (fun cel h => ca_0 _ h) ?_
    refine j_iload_n C0 dX6_table_54 rfl ?_
    refine j_xret (by rw [eX6_table, if_pos q1, if_pos q2, if_pos q3]) (Nat.le_of_ble_eq_true rfl) (Nat.le_of_ble_eq_true rfl) ?_
    exact j_iretE C0 rfl (by rw [vX6_table, if_pos q1, if_pos q2, if_pos q3]) dX6_table_55 (fun H h => by rw [sX6_table, if_pos q1, if_pos q2, if_pos q3]; exact ⟨_, _, h⟩)
  ·
    exact j_throw C0 hexc hE (text := "a move has begun") rfl (by decide) at_S ag_S (by decide) dX6_table_24 dX6_table_27 dX6_table_28 dX6_table_30 dX6_table_33 (by rw [eX6_table, if_pos q1, if_pos q2, if_neg q3]; decide) (by rw [eX6_table, if_pos q1, if_pos q2, if_neg q3]; rfl) GW.cw (fun H h => by rw [sX6_table, if_pos q1, if_pos q2, if_neg q3]; exact ⟨_, _, h⟩) (Nat.le_of_ble_eq_true rfl) (Nat.le_of_ble_eq_true rfl) (Nat.le_of_ble_eq_true rfl) (Nat.le_of_ble_eq_true rfl) (Nat.le_of_ble_eq_true rfl) (Nat.le_of_ble_eq_true rfl)
/-! ## HarborTides.berth(II)I -/
def eX6_berth (F : Nat → Int32) (G : Nat → Nat → Int32) (N : Nat → Nat) (Q : Nat → Nat → Nat) (a1 : Int32) (a2 : Int32) : Nat := (if (eX6_checkPlace (a1) ((6 : Int32))) = 0 then (if (eX6_checkRange (a2) ((0 : Int32)) ((200 : Int32))) = 0 then (if (vX0_hasMoveAt F G N Q (a1)) = 0 then 0 else 3) else (eX6_checkRange (a2) ((0 : Int32)) ((200 : Int32)))) else (eX6_checkPlace (a1) ((6 : Int32))))
def vX6_berth (F : Nat → Int32) (G : Nat → Nat → Int32) (N : Nat → Nat) (Q : Nat → Nat → Nat) (a1 : Int32) (a2 : Int32) : Int32 := (if (eX6_checkPlace (a1) ((6 : Int32))) = 0 then (if (eX6_checkRange (a2) ((0 : Int32)) ((200 : Int32))) = 0 then (if (vX0_hasMoveAt F G N Q (a1)) = 0 then ((G 2) (a1).toNatClampNeg) else (0 : Int32)) else (0 : Int32)) else (0 : Int32))
def sX6_berth (F : Nat → Int32) (G : Nat → Nat → Int32) (N : Nat → Nat) (Q : Nat → Nat → Nat) (a1 : Int32) (a2 : Int32) : (Nat → Int32) := (if (eX6_checkPlace (a1) ((6 : Int32))) = 0 then (if (eX6_checkRange (a2) ((0 : Int32)) ((200 : Int32))) = 0 then (if (vX0_hasMoveAt F G N Q (a1)) = 0 then ((upd (G 2) (a1).toNatClampNeg (a2))) else ((G 2))) else ((G 2))) else ((G 2)))
set_option maxRecDepth 100000 in
set_option maxHeartbeats 4000000 in
theorem k_X6_berth {l : Launch} (hsl : l.stackTraces = false) {D : va_G} {Y : Nat → ClassId} {A : Nat → Prop} {E : State → Prop} {tE : Nat} {mi : Nat} (hE : ∀ U, E U → EC A tE mi U) (ad : Nat → Nat) (F : Nat → Int32) (G : Nat → Nat → Int32) (N : Nat → Nat) (Q : Nat → Nat → Nat)  (a1 : Int32) (a2 : Int32)   : XM l yX6_berth cX6_berth 4 (some .int) D Y A E 7 112 8 300 [.ref (ad 0), .int (a1), .int (a2)] (CA D Y A tE ad F G N Q) (some (.int (vX6_berth F G N Q a1 a2))) (eX6_berth F G N Q a1 a2) (CA D Y A tE ad F (hu G 2 (sX6_berth F G N Q a1 a2)) N Q) := by
  refine XM_of RX6 [(0, .ref (ad 0)), (1, .int (a1)), (2, .int (a2))] rfl (by decide) hsl (Nat.le_of_ble_eq_true rfl) rfl (lok_of rfl rfl) ?_
  intro p e s m args below meth c C0 hexc
  refine j_ex (fun sa => ?_)
  refine j_ex (fun ma => ?_)
  show J p l e _ s m args below meth c A 4 _ (CO D Y A tE ad (F 0) (F 1) (F 2) (G 0) (G 1) (G 2) (G 3) (G 4) (G 5) (G 6) (G 7) (G 8) (G 9) (G 10) (G 11) (G 12) (G 13) (G 14) (G 15) (G 16) (G 17) (G 18) (G 19) (N 0) (N 1) (N 2) (Q 0) (Q 1) sa ma) 0 0 0 [(0, .ref (ad 0)), (1, .int (a1)), (2, .int (a2))] []
  refine c_fact (fun cel h => ci_f h) (fun hcf => ?_)
  obtain ⟨hn0, hn1, hn2, hq0, hq1⟩ := hcf
  refine j_iload_n C0 dX6_berth_0 rfl ?_
  refine j_bipush C0 (v := 6) dX6_berth_1 (by decide) ?_
  refine j_xcallS C0 hexc (k_X6_checkPlace hsl hE (a1) ((6 : Int32)) GW.cw ) ms_X6_checkPlace wm_X6_54 rfl rfl ⟨Nat.le_of_ble_eq_true rfl, Nat.le_of_ble_eq_true rfl⟩ (Nat.le_of_ble_eq_true rfl) ⟨(Nat.le_of_ble_eq_true rfl), (Nat.le_of_ble_eq_true rfl)⟩ dX6_berth_3 ⟨(Nat.le_of_ble_eq_true rfl), (Nat.le_of_ble_eq_true rfl)⟩ (fun (q1 : ¬ (eX6_checkPlace (a1) ((6 : Int32))) = 0) => ⟨by rw [eX6_berth, if_neg q1], fun H h => by rw [sX6_berth, if_neg q1]; exact ⟨_, _, h⟩⟩) (fun (q1 : (eX6_checkPlace (a1) ((6 : Int32))) = 0) => ?_)
  show J p l e _ s m args below meth c A 4 _ (CO D Y A tE ad (F 0) (F 1) (F 2) (G 0) (G 1) (G 2) (G 3) (G 4) (G 5) (G 6) (G 7) (G 8) (G 9) (G 10) (G 11) (G 12) (G 13) (G 14) (G 15) (G 16) (G 17) (G 18) (G 19) (N 0) (N 1) (N 2) (Q 0) (Q 1) sa ma) (0 + 1) (0 + 6) 6 [(0, .ref (ad 0)), (1, .int (a1)), (2, .int (a2))] []
  refine j_iload_n C0 dX6_berth_6 rfl ?_
  refine j_iconst C0 (v := 0) dX6_berth_7 (by decide) ?_
  refine j_sipush C0 (v := 200) dX6_berth_8 (by decide) ?_
  refine j_xcallS C0 hexc (k_X6_checkRange hsl hE (a2) ((0 : Int32)) ((200 : Int32)) GW.cw ) ms_X6_checkRange wm_X6_58 rfl rfl ⟨Nat.le_of_ble_eq_true rfl, Nat.le_of_ble_eq_true rfl⟩ (Nat.le_of_ble_eq_true rfl) ⟨(Nat.le_of_ble_eq_true rfl), (Nat.le_of_ble_eq_true rfl)⟩ dX6_berth_11 ⟨(Nat.le_of_ble_eq_true rfl), (Nat.le_of_ble_eq_true rfl)⟩ (fun (q2 : ¬ (eX6_checkRange (a2) ((0 : Int32)) ((200 : Int32))) = 0) => ⟨by rw [eX6_berth, if_pos q1, if_neg q2], fun H h => by rw [sX6_berth, if_pos q1, if_neg q2]; exact ⟨_, _, h⟩⟩) (fun (q2 : (eX6_checkRange (a2) ((0 : Int32)) ((200 : Int32))) = 0) => ?_)
  show J p l e _ s m args below meth c A 4 _ (CO D Y A tE ad (F 0) (F 1) (F 2) (G 0) (G 1) (G 2) (G 3) (G 4) (G 5) (G 6) (G 7) (G 8) (G 9) (G 10) (G 11) (G 12) (G 13) (G 14) (G 15) (G 16) (G 17) (G 18) (G 19) (N 0) (N 1) (N 2) (Q 0) (Q 1) sa ma) ((0 + 1) + 1) ((0 + 6) + 6) 14 [(0, .ref (ad 0)), (1, .int (a1)), (2, .int (a2))] []
  refine j_aload_n C0 dX6_berth_14 rfl ?_
  refine c_get C0 in_X6 (ci := 9) rfl 0 (fun cel h => ci_0 h) 2 (by decide) wf_X6_26 rfl dX6_berth_15 ?_
  refine j_iload_n C0 dX6_berth_18 rfl ?_
  refine j_callVv C0 (k_X0_hasMoveAt hsl ad F G N Q sa ma  (a1)  ) mv_X0_hasMoveAt wm_X6_87 (c_recv C0 (ci := 3) rfl 3 (fun cel h => ⟨_, ci_3 h⟩)) rfl rfl ⟨Nat.le_of_ble_eq_true rfl, Nat.le_of_ble_eq_true rfl⟩ (Nat.le_of_ble_eq_true rfl) ⟨(Nat.le_of_ble_eq_true rfl), (Nat.le_of_ble_eq_true rfl)⟩ dX6_berth_19 ?_
  show J p l e _ s m args below meth c A 4 _ (CO D Y A tE ad (F 0) (F 1) (F 2) (G 0) (G 1) (G 2) (G 3) (G 4) (G 5) (G 6) (G 7) (G 8) (G 9) (G 10) (G 11) (G 12) (G 13) (G 14) (G 15) (G 16) (G 17) (G 18) (G 19) (N 0) (N 1) (N 2) (Q 0) (Q 1) sa ma) ((0 + 1) + 1) ((0 + 6) + 6) 22 [(0, .ref (ad 0)), (1, .int (a1)), (2, .int (a2))] [.int ((vX0_hasMoveAt F G N Q (a1)))]
  refine j_if_eq C0 35 dX6_berth_22 (by decide) (fun (q3 : (vX0_hasMoveAt F G N Q (a1)) = 0) => ?_) (fun (q3 : ¬ ((vX0_hasMoveAt F G N Q (a1)) = 0)) => ?_)
  ·
    refine j_aload_n C0 dX6_berth_35 rfl ?_
    refine c_get C0 in_X6 (ci := 9) rfl 0 (fun cel h => ci_0 h) 0 (by decide) wf_X6_10 rfl dX6_berth_36 ?_
    refine c_get C0 in_X5 (ci := 8) rfl 1 (fun cel h => ci_1 h) 2 (by decide) wf_X6_93 rfl dX6_berth_39 ?_
    refine j_iload_n C0 dX6_berth_42 rfl ?_
    refine c_iald C0 8 (fun cel h => ci_8 h) (v := ((G 2) (a1).toNatClampNeg)) (cp_ok (n := 6) (by decide) q1) dX6_berth_43 rfl ?_
    refine j_istore_n C0 (L' := [(0, .ref (ad 0)), (1, .int (a1)), (2, .int (a2)), (3, .int (((G 2) (a1).toNatClampNeg)))]) dX6_berth_44 (by decide) rfl ?_
    refine j_aload_n C0 dX6_berth_45 rfl ?_
    refine c_get C0 in_X6 (ci := 9) rfl 0 (fun cel h => ci_0 h) 0 (by decide) wf_X6_10 rfl dX6_berth_46 ?_
    refine c_get C0 in_X5 (ci := 8) rfl 1 (fun cel h => ci_1 h) 2 (by decide) wf_X6_93 rfl dX6_berth_49 ?_
    refine j_iload_n C0 dX6_berth_52 rfl ?_
    refine j_iload_n C0 dX6_berth_53 rfl ?_
    refine c_iast C0 (P := (CIV Y tE ad (F 0) (F 1) (F 2) (G 0) (G 1) (G 2) (G 3) (G 4) (G 5) (G 6) (G 7) (G 8) (G 9) (G 10) (G 11) (G 12) (G 13) (G 14) (G 15) (G 16) (G 17) (G 18) (G 19) (N 0) (N 1) (N 2) (Q 0) (Q 1) sa ma)) (P' := (CIV Y tE ad (F 0) (F 1) (F 2) (G 0) (G 1) (upd (G 2) (a1).toNatClampNeg (a2)) (G 3) (G 4) (G 5) (G 6) (G 7) (G 8) (G 9) (G 10) (G 11) (G 12) (G 13) (G 14) (G 15) (G 16) (G 17) (G 18) (G 19) (N 0) (N 1) (N 2) (Q 0) (Q 1) sa ma)) 8 (fun cel h => ci_8 h) (cp_ok (n := 6) (by decide) q1) dX6_berth_54 (fun cel h => ca_2 _ h) ?_
    refine j_iload_n C0 dX6_berth_55 rfl ?_
    refine j_xret (by rw [eX6_berth, if_pos q1, if_pos q2, if_pos q3]) (Nat.le_of_ble_eq_true rfl) (Nat.le_of_ble_eq_true rfl) ?_
    exact j_iretE C0 rfl (by rw [vX6_berth, if_pos q1, if_pos q2, if_pos q3]) dX6_berth_56 (fun H h => by rw [sX6_berth, if_pos q1, if_pos q2, if_pos q3]; exact ⟨_, _, h⟩)
  ·
    exact j_throw C0 hexc hE (text := "a move has begun to or from the berth") rfl (by decide) at_S ag_S (by decide) dX6_berth_25 dX6_berth_28 dX6_berth_29 dX6_berth_31 dX6_berth_34 (by rw [eX6_berth, if_pos q1, if_pos q2, if_neg q3]; decide) (by rw [eX6_berth, if_pos q1, if_pos q2, if_neg q3]; rfl) GW.cw (fun H h => by rw [sX6_berth, if_pos q1, if_pos q2, if_neg q3]; exact ⟨_, _, h⟩) (Nat.le_of_ble_eq_true rfl) (Nat.le_of_ble_eq_true rfl) (Nat.le_of_ble_eq_true rfl) (Nat.le_of_ble_eq_true rfl) (Nat.le_of_ble_eq_true rfl) (Nat.le_of_ble_eq_true rfl)
/-! ## HarborTides.cancel(I)I -/
def eX6_cancel (F : Nat → Int32) (G : Nat → Nat → Int32) (N : Nat → Nat) (Q : Nat → Nat → Nat) (a1 : Int32) : Nat := (if (eX6_shipAt F G N Q (a1)) = 0 then (if (vX4_hasOrder F G N Q (((a1).toNatClampNeg))) = 0 then 3 else 0) else (eX6_shipAt F G N Q (a1)))
def vX6_cancel (F : Nat → Int32) (G : Nat → Nat → Int32) (N : Nat → Nat) (Q : Nat → Nat → Nat) (a1 : Int32) : Int32 := (if (eX6_shipAt F G N Q (a1)) = 0 then (if (vX4_hasOrder F G N Q (((a1).toNatClampNeg))) = 0 then (0 : Int32) else ((G 12) ((a1).toNatClampNeg))) else (0 : Int32))
def sX6_cancel (F : Nat → Int32) (G : Nat → Nat → Int32) (N : Nat → Nat) (Q : Nat → Nat → Nat) (a1 : Int32) : Nat × (Nat → Nat) × (Nat → Int32) := (if (eX6_shipAt F G N Q (a1)) = 0 then (if (vX4_hasOrder F G N Q (((a1).toNatClampNeg))) = 0 then ((N 2), (Q 0), (G 12)) else ((sX2_drop F G N Q (((a1).toNatClampNeg))).1, (sX2_drop F G N Q (((a1).toNatClampNeg))).2.1, (sX2_drop F G N Q (((a1).toNatClampNeg))).2.2)) else ((N 2), (Q 0), (G 12)))
set_option maxRecDepth 100000 in
set_option maxHeartbeats 4000000 in
theorem k_X6_cancel {l : Launch} (hsl : l.stackTraces = false) {D : va_G} {Y : Nat → ClassId} {A : Nat → Prop} {E : State → Prop} {tE : Nat} {mi : Nat} (hE : ∀ U, E U → EC A tE mi U) (ad : Nat → Nat) (F : Nat → Int32) (G : Nat → Nat → Int32) (N : Nat → Nat) (Q : Nat → Nat → Nat)  (a1 : Int32)   : XM l yX6_cancel cX6_cancel 4 (some .int) D Y A E 9 222 8 300 [.ref (ad 0), .int (a1)] (CA D Y A tE ad F G N Q) (some (.int (vX6_cancel F G N Q a1))) (eX6_cancel F G N Q a1) (CA D Y A tE ad F (hu G 12 (sX6_cancel F G N Q a1).2.2) (hu N 2 (sX6_cancel F G N Q a1).1) (hu Q 0 (sX6_cancel F G N Q a1).2.1)) := by
  refine XM_of RX6 [(0, .ref (ad 0)), (1, .int (a1))] rfl (by decide) hsl (Nat.le_of_ble_eq_true rfl) rfl (lok_of rfl rfl) ?_
  intro p e s m args below meth c C0 hexc
  refine j_ex (fun sa => ?_)
  refine j_ex (fun ma => ?_)
  show J p l e _ s m args below meth c A 4 _ (CO D Y A tE ad (F 0) (F 1) (F 2) (G 0) (G 1) (G 2) (G 3) (G 4) (G 5) (G 6) (G 7) (G 8) (G 9) (G 10) (G 11) (G 12) (G 13) (G 14) (G 15) (G 16) (G 17) (G 18) (G 19) (N 0) (N 1) (N 2) (Q 0) (Q 1) sa ma) 0 0 0 [(0, .ref (ad 0)), (1, .int (a1))] []
  refine c_fact (fun cel h => ci_f h) (fun hcf => ?_)
  obtain ⟨hn0, hn1, hn2, hq0, hq1⟩ := hcf
  refine j_aload_n C0 dX6_cancel_0 rfl ?_
  refine j_iload_n C0 dX6_cancel_1 rfl ?_
  refine j_xcallV C0 hexc (k_X6_shipAt hsl hE ad F G N Q sa ma (a1)  ) mv_X6_shipAt wm_X6_110 (c_recv C0 (ci := 9) rfl 0 (fun cel h => ⟨_, ci_0 h⟩)) rfl rfl ⟨Nat.le_of_ble_eq_true rfl, Nat.le_of_ble_eq_true rfl⟩ (Nat.le_of_ble_eq_true rfl) ⟨(Nat.le_of_ble_eq_true rfl), (Nat.le_of_ble_eq_true rfl)⟩ dX6_cancel_2 ⟨(Nat.le_of_ble_eq_true rfl), (Nat.le_of_ble_eq_true rfl)⟩ (fun (q1 : ¬ (eX6_shipAt F G N Q (a1)) = 0) => ⟨by rw [eX6_cancel, if_neg q1], fun H h => by rw [sX6_cancel, if_neg q1]; exact ⟨_, _, h⟩⟩) (fun (q1 : (eX6_shipAt F G N Q (a1)) = 0) => ?_)
  have hsA := sA_lt hn0 q1
  show J p l e _ s m args below meth c A 4 _ (CO D Y A tE ad (F 0) (F 1) (F 2) (G 0) (G 1) (G 2) (G 3) (G 4) (G 5) (G 6) (G 7) (G 8) (G 9) (G 10) (G 11) (G 12) (G 13) (G 14) (G 15) (G 16) (G 17) (G 18) (G 19) (N 0) (N 1) (N 2) (Q 0) (Q 1) sa ma) (0 + 1) (0 + 6) 5 [(0, .ref (ad 0)), (1, .int (a1))] [.ref ((sa (a1).toNatClampNeg))]
  refine j_astore_n C0 (L' := [(0, .ref (ad 0)), (1, .int (a1)), (2, .ref ((sa (a1).toNatClampNeg)))]) dX6_cancel_5 (by decide) rfl ?_
  refine j_aload_n C0 dX6_cancel_6 rfl ?_
  refine j_callVv C0 (k_X4_hasOrder hsl ad F G N Q sa ma (((a1).toNatClampNeg)) hsA   ) mv_X4_hasOrder wm_X6_120 (c_recv C0 (ci := 7) rfl (20 + 2 * ((a1).toNatClampNeg)) (fun cel h => ⟨_, ci_s h ((a1).toNatClampNeg) hsA⟩)) rfl rfl ⟨Nat.le_of_ble_eq_true rfl, Nat.le_of_ble_eq_true rfl⟩ (Nat.le_of_ble_eq_true rfl) ⟨(Nat.le_of_ble_eq_true rfl), (Nat.le_of_ble_eq_true rfl)⟩ dX6_cancel_7 ?_
  show J p l e _ s m args below meth c A 4 _ (CO D Y A tE ad (F 0) (F 1) (F 2) (G 0) (G 1) (G 2) (G 3) (G 4) (G 5) (G 6) (G 7) (G 8) (G 9) (G 10) (G 11) (G 12) (G 13) (G 14) (G 15) (G 16) (G 17) (G 18) (G 19) (N 0) (N 1) (N 2) (Q 0) (Q 1) sa ma) (0 + 1) (0 + 6) 10 [(0, .ref (ad 0)), (1, .int (a1)), (2, .ref ((sa (a1).toNatClampNeg)))] [.int ((vX4_hasOrder F G N Q (((a1).toNatClampNeg))))]
  refine j_if_ne C0 23 dX6_cancel_10 (by decide) (fun (q2 : ¬ ((vX4_hasOrder F G N Q (((a1).toNatClampNeg))) = 0)) => ?_) (fun (q2 : (vX4_hasOrder F G N Q (((a1).toNatClampNeg))) = 0) => ?_)
  ·
    refine j_aload_n C0 dX6_cancel_23 rfl ?_
    refine c_get C0 in_X4 (ci := 7) rfl (20 + 2 * ((a1).toNatClampNeg)) (fun cel h => ci_s h ((a1).toNatClampNeg) hsA) 7 (by decide) wf_X6_125 (v := .int (((G 12) ((a1).toNatClampNeg)))) rfl dX6_cancel_24 ?_
    refine j_istore_n C0 (L' := [(0, .ref (ad 0)), (1, .int (a1)), (2, .ref ((sa (a1).toNatClampNeg))), (3, .int (((G 12) ((a1).toNatClampNeg))))]) dX6_cancel_27 (by decide) rfl ?_
    refine j_aload_n C0 dX6_cancel_28 rfl ?_
    refine c_get C0 in_X6 (ci := 9) rfl 0 (fun cel h => ci_0 h) 4 (by decide) wf_X6_40 rfl dX6_cancel_29 ?_
    refine j_aload_n C0 dX6_cancel_32 rfl ?_
    refine j_callVn C0 (k_X2_drop hsl hE ad F G N Q sa ma  (((a1).toNatClampNeg)) hsA ) mv_X2_drop wm_X6_135 (c_recv C0 (ci := 5) rfl 5 (fun cel h => ⟨_, ci_5 h⟩)) rfl rfl ⟨Nat.le_of_ble_eq_true rfl, Nat.le_of_ble_eq_true rfl⟩ (Nat.le_of_ble_eq_true rfl) ⟨(Nat.le_of_ble_eq_true rfl), (Nat.le_of_ble_eq_true rfl)⟩ dX6_cancel_33 ?_
    show J p l e _ s m args below meth c A 4 _ (CO D Y A tE ad (F 0) (F 1) (F 2) (G 0) (G 1) (G 2) (G 3) (G 4) (G 5) (G 6) (G 7) (G 8) (G 9) (G 10) (G 11) (sX2_drop F G N Q (((a1).toNatClampNeg))).2.2 (G 13) (G 14) (G 15) (G 16) (G 17) (G 18) (G 19) (N 0) (N 1) (sX2_drop F G N Q (((a1).toNatClampNeg))).1 (sX2_drop F G N Q (((a1).toNatClampNeg))).2.1 (Q 1) sa ma) (0 + 1) (0 + 6) 36 [(0, .ref (ad 0)), (1, .int (a1)), (2, .ref ((sa (a1).toNatClampNeg))), (3, .int (((G 12) ((a1).toNatClampNeg))))] []
    refine j_iload_n C0 dX6_cancel_36 rfl ?_
    refine j_xret (by rw [eX6_cancel, if_pos q1, if_neg q2]) (Nat.le_of_ble_eq_true rfl) (Nat.le_of_ble_eq_true rfl) ?_
    exact j_iretE C0 rfl (by rw [vX6_cancel, if_pos q1, if_neg q2]) dX6_cancel_37 (fun H h => by rw [sX6_cancel, if_pos q1, if_neg q2]; exact ⟨_, _, h⟩)
  ·
    exact j_throw C0 hexc hE (text := "the ship has no order") rfl (by decide) at_S ag_S (by decide) dX6_cancel_13 dX6_cancel_16 dX6_cancel_17 dX6_cancel_19 dX6_cancel_22 (by rw [eX6_cancel, if_pos q1, if_pos q2]; decide) (by rw [eX6_cancel, if_pos q1, if_pos q2]; rfl) GW.cw (fun H h => by rw [sX6_cancel, if_pos q1, if_pos q2]; exact ⟨_, _, h⟩) (Nat.le_of_ble_eq_true rfl) (Nat.le_of_ble_eq_true rfl) (Nat.le_of_ble_eq_true rfl) (Nat.le_of_ble_eq_true rfl) (Nat.le_of_ble_eq_true rfl) (Nat.le_of_ble_eq_true rfl)
/-! ## HarborTides.queue(I)I -/
def eX6_queue (F : Nat → Int32) (G : Nat → Nat → Int32) (N : Nat → Nat) (Q : Nat → Nat → Nat) (a1 : Int32) : Nat := (if (eX6_shipAt F G N Q (a1)) = 0 then 0 else (eX6_shipAt F G N Q (a1)))
def vX6_queue (F : Nat → Int32) (G : Nat → Nat → Int32) (N : Nat → Nat) (Q : Nat → Nat → Nat) (a1 : Int32) : Int32 := (if (eX6_shipAt F G N Q (a1)) = 0 then (vX2_placeOf F G N Q (((a1).toNatClampNeg))) else (0 : Int32))
set_option maxRecDepth 100000 in
set_option maxHeartbeats 4000000 in
theorem k_X6_queue {l : Launch} (hsl : l.stackTraces = false) {D : va_G} {Y : Nat → ClassId} {A : Nat → Prop} {E : State → Prop} {tE : Nat} {mi : Nat} (hE : ∀ U, E U → EC A tE mi U) (ad : Nat → Nat) (F : Nat → Int32) (G : Nat → Nat → Int32) (N : Nat → Nat) (Q : Nat → Nat → Nat)  (a1 : Int32)   : XM l yX6_queue cX6_queue 2 (some .int) D Y A E 9 171 2 12 [.ref (ad 0), .int (a1)] (CA D Y A tE ad F G N Q) (some (.int (vX6_queue F G N Q a1))) (eX6_queue F G N Q a1) (CA D Y A tE ad F G N Q) := by
  refine XM_of RX6 [(0, .ref (ad 0)), (1, .int (a1))] rfl (by decide) hsl (Nat.le_of_ble_eq_true rfl) rfl (lok_of rfl rfl) ?_
  intro p e s m args below meth c C0 hexc
  refine j_ex (fun sa => ?_)
  refine j_ex (fun ma => ?_)
  show J p l e _ s m args below meth c A 2 _ (CO D Y A tE ad (F 0) (F 1) (F 2) (G 0) (G 1) (G 2) (G 3) (G 4) (G 5) (G 6) (G 7) (G 8) (G 9) (G 10) (G 11) (G 12) (G 13) (G 14) (G 15) (G 16) (G 17) (G 18) (G 19) (N 0) (N 1) (N 2) (Q 0) (Q 1) sa ma) 0 0 0 [(0, .ref (ad 0)), (1, .int (a1))] []
  refine c_fact (fun cel h => ci_f h) (fun hcf => ?_)
  obtain ⟨hn0, hn1, hn2, hq0, hq1⟩ := hcf
  refine j_aload_n C0 dX6_queue_0 rfl ?_
  refine c_get C0 in_X6 (ci := 9) rfl 0 (fun cel h => ci_0 h) 4 (by decide) wf_X6_40 rfl dX6_queue_1 ?_
  refine j_aload_n C0 dX6_queue_4 rfl ?_
  refine j_iload_n C0 dX6_queue_5 rfl ?_
  refine j_xcallV C0 hexc (k_X6_shipAt hsl hE ad F G N Q sa ma (a1)  ) mv_X6_shipAt wm_X6_110 (c_recv C0 (ci := 9) rfl 0 (fun cel h => ⟨_, ci_0 h⟩)) rfl rfl ⟨Nat.le_of_ble_eq_true rfl, Nat.le_of_ble_eq_true rfl⟩ (Nat.le_of_ble_eq_true rfl) ⟨(Nat.le_of_ble_eq_true rfl), (Nat.le_of_ble_eq_true rfl)⟩ dX6_queue_6 ⟨(Nat.le_of_ble_eq_true rfl), (Nat.le_of_ble_eq_true rfl)⟩ (fun (q1 : ¬ (eX6_shipAt F G N Q (a1)) = 0) => ⟨by rw [eX6_queue, if_neg q1], fun H h => ⟨_, _, h⟩⟩) (fun (q1 : (eX6_shipAt F G N Q (a1)) = 0) => ?_)
  have hsA := sA_lt hn0 q1
  show J p l e _ s m args below meth c A 2 _ (CO D Y A tE ad (F 0) (F 1) (F 2) (G 0) (G 1) (G 2) (G 3) (G 4) (G 5) (G 6) (G 7) (G 8) (G 9) (G 10) (G 11) (G 12) (G 13) (G 14) (G 15) (G 16) (G 17) (G 18) (G 19) (N 0) (N 1) (N 2) (Q 0) (Q 1) sa ma) (0 + 1) (0 + 6) 9 [(0, .ref (ad 0)), (1, .int (a1))] [.ref ((sa (a1).toNatClampNeg)), .ref (ad 5)]
  refine j_callVv C0 (k_X2_placeOf hsl ad F G N Q sa ma  (((a1).toNatClampNeg)) hsA ) mv_X2_placeOf wm_X6_145 (c_recv C0 (ci := 5) rfl 5 (fun cel h => ⟨_, ci_5 h⟩)) rfl rfl ⟨Nat.le_of_ble_eq_true rfl, Nat.le_of_ble_eq_true rfl⟩ (Nat.le_of_ble_eq_true rfl) ⟨(Nat.le_of_ble_eq_true rfl), (Nat.le_of_ble_eq_true rfl)⟩ dX6_queue_9 ?_
  show J p l e _ s m args below meth c A 2 _ (CO D Y A tE ad (F 0) (F 1) (F 2) (G 0) (G 1) (G 2) (G 3) (G 4) (G 5) (G 6) (G 7) (G 8) (G 9) (G 10) (G 11) (G 12) (G 13) (G 14) (G 15) (G 16) (G 17) (G 18) (G 19) (N 0) (N 1) (N 2) (Q 0) (Q 1) sa ma) (0 + 1) (0 + 6) 12 [(0, .ref (ad 0)), (1, .int (a1))] [.int ((vX2_placeOf F G N Q (((a1).toNatClampNeg))))]
  refine j_xret (by rw [eX6_queue, if_pos q1]) (Nat.le_of_ble_eq_true rfl) (Nat.le_of_ble_eq_true rfl) ?_
  exact j_iretE C0 rfl (by rw [vX6_queue, if_pos q1]) dX6_queue_12 (fun H h => ⟨_, _, h⟩)
/-! ## HarborTides.payClaim(I)I -/
def eX6_payClaim (F : Nat → Int32) (G : Nat → Nat → Int32) (N : Nat → Nat) (Q : Nat → Nat → Nat) (a1 : Int32) : Nat := (if (eX6_shipAt F G N Q (a1)) = 0 then (if ((G 15) ((a1).toNatClampNeg)) = 0 then 3 else 0) else (eX6_shipAt F G N Q (a1)))
def vX6_payClaim (F : Nat → Int32) (G : Nat → Nat → Int32) (N : Nat → Nat) (Q : Nat → Nat → Nat) (a1 : Int32) : Int32 := (if (eX6_shipAt F G N Q (a1)) = 0 then (if ((G 15) ((a1).toNatClampNeg)) = 0 then (0 : Int32) else ((80 : Int32) * ((G 6) ((a1).toNatClampNeg)))) else (0 : Int32))
def sX6_payClaim (F : Nat → Int32) (G : Nat → Nat → Int32) (N : Nat → Nat) (Q : Nat → Nat → Nat) (a1 : Int32) : Int32 × (Nat → Int32) × (Nat → Int32) := (if (eX6_shipAt F G N Q (a1)) = 0 then (if ((G 15) ((a1).toNatClampNeg)) = 0 then ((F 2), (G 13), (G 15)) else (((F 2) + (-((80 : Int32) * ((G 6) ((a1).toNatClampNeg))))), (upd (G 13) ((a1).toNatClampNeg) (((G 13) ((a1).toNatClampNeg)) + (-((80 : Int32) * ((G 6) ((a1).toNatClampNeg)))))), (upd (G 15) ((a1).toNatClampNeg) (((G 15) ((a1).toNatClampNeg)) - (1 : Int32))))) else ((F 2), (G 13), (G 15)))
set_option maxRecDepth 100000 in
set_option maxHeartbeats 4000000 in
theorem k_X6_payClaim {l : Launch} (hsl : l.stackTraces = false) {D : va_G} {Y : Nat → ClassId} {A : Nat → Prop} {E : State → Prop} {tE : Nat} {mi : Nat} (hE : ∀ U, E U → EC A tE mi U) (ad : Nat → Nat) (F : Nat → Int32) (G : Nat → Nat → Int32) (N : Nat → Nat) (Q : Nat → Nat → Nat)  (a1 : Int32)   : XM l yX6_payClaim cX6_payClaim 4 (some .int) D Y A E 9 171 8 300 [.ref (ad 0), .int (a1)] (CA D Y A tE ad F G N Q) (some (.int (vX6_payClaim F G N Q a1))) (eX6_payClaim F G N Q a1) (CA D Y A tE ad (hu F 2 (sX6_payClaim F G N Q a1).1) (hu (hu G 13 (sX6_payClaim F G N Q a1).2.1) 15 (sX6_payClaim F G N Q a1).2.2) N Q) := by
  refine XM_of RX6 [(0, .ref (ad 0)), (1, .int (a1))] rfl (by decide) hsl (Nat.le_of_ble_eq_true rfl) rfl (lok_of rfl rfl) ?_
  intro p e s m args below meth c C0 hexc
  refine j_ex (fun sa => ?_)
  refine j_ex (fun ma => ?_)
  show J p l e _ s m args below meth c A 4 _ (CO D Y A tE ad (F 0) (F 1) (F 2) (G 0) (G 1) (G 2) (G 3) (G 4) (G 5) (G 6) (G 7) (G 8) (G 9) (G 10) (G 11) (G 12) (G 13) (G 14) (G 15) (G 16) (G 17) (G 18) (G 19) (N 0) (N 1) (N 2) (Q 0) (Q 1) sa ma) 0 0 0 [(0, .ref (ad 0)), (1, .int (a1))] []
  refine c_fact (fun cel h => ci_f h) (fun hcf => ?_)
  obtain ⟨hn0, hn1, hn2, hq0, hq1⟩ := hcf
  refine j_aload_n C0 dX6_payClaim_0 rfl ?_
  refine j_iload_n C0 dX6_payClaim_1 rfl ?_
  refine j_xcallV C0 hexc (k_X6_shipAt hsl hE ad F G N Q sa ma (a1)  ) mv_X6_shipAt wm_X6_110 (c_recv C0 (ci := 9) rfl 0 (fun cel h => ⟨_, ci_0 h⟩)) rfl rfl ⟨Nat.le_of_ble_eq_true rfl, Nat.le_of_ble_eq_true rfl⟩ (Nat.le_of_ble_eq_true rfl) ⟨(Nat.le_of_ble_eq_true rfl), (Nat.le_of_ble_eq_true rfl)⟩ dX6_payClaim_2 ⟨(Nat.le_of_ble_eq_true rfl), (Nat.le_of_ble_eq_true rfl)⟩ (fun (q1 : ¬ (eX6_shipAt F G N Q (a1)) = 0) => ⟨by rw [eX6_payClaim, if_neg q1], fun H h => by rw [sX6_payClaim, if_neg q1]; exact ⟨_, _, h⟩⟩) (fun (q1 : (eX6_shipAt F G N Q (a1)) = 0) => ?_)
  have hsA := sA_lt hn0 q1
  show J p l e _ s m args below meth c A 4 _ (CO D Y A tE ad (F 0) (F 1) (F 2) (G 0) (G 1) (G 2) (G 3) (G 4) (G 5) (G 6) (G 7) (G 8) (G 9) (G 10) (G 11) (G 12) (G 13) (G 14) (G 15) (G 16) (G 17) (G 18) (G 19) (N 0) (N 1) (N 2) (Q 0) (Q 1) sa ma) (0 + 1) (0 + 6) 5 [(0, .ref (ad 0)), (1, .int (a1))] [.ref ((sa (a1).toNatClampNeg))]
  refine j_astore_n C0 (L' := [(0, .ref (ad 0)), (1, .int (a1)), (2, .ref ((sa (a1).toNatClampNeg)))]) dX6_payClaim_5 (by decide) rfl ?_
  refine j_aload_n C0 dX6_payClaim_6 rfl ?_
  refine c_get C0 in_X4 (ci := 7) rfl (20 + 2 * ((a1).toNatClampNeg)) (fun cel h => ci_s h ((a1).toNatClampNeg) hsA) 10 (by decide) wf_X6_220 (v := .int (((G 15) ((a1).toNatClampNeg)))) rfl dX6_payClaim_7 ?_
  refine j_if_ne C0 23 dX6_payClaim_10 (by decide) (fun (q2 : ¬ (((G 15) ((a1).toNatClampNeg)) = 0)) => ?_) (fun (q2 : ((G 15) ((a1).toNatClampNeg)) = 0) => ?_)
  ·
    refine j_bipush C0 (v := 80) dX6_payClaim_23 (by decide) ?_
    refine j_aload_n C0 dX6_payClaim_25 rfl ?_
    refine c_get C0 in_X4 (ci := 7) rfl (20 + 2 * ((a1).toNatClampNeg)) (fun cel h => ci_s h ((a1).toNatClampNeg) hsA) 1 (by decide) wf_X6_225 (v := .int (((G 6) ((a1).toNatClampNeg)))) rfl dX6_payClaim_26 ?_
    refine j_imul C0 dX6_payClaim_29 ?_
    refine j_istore_n C0 (L' := [(0, .ref (ad 0)), (1, .int (a1)), (2, .ref ((sa (a1).toNatClampNeg))), (3, .int (((80 : Int32) * ((G 6) ((a1).toNatClampNeg)))))]) dX6_payClaim_30 (by decide) rfl ?_
    refine j_aload_n C0 dX6_payClaim_31 rfl ?_
    refine j_dup C0 dX6_payClaim_32 rfl ?_
    refine c_get C0 in_X4 (ci := 7) rfl (20 + 2 * ((a1).toNatClampNeg)) (fun cel h => ci_s h ((a1).toNatClampNeg) hsA) 10 (by decide) wf_X6_220 (v := .int (((G 15) ((a1).toNatClampNeg)))) rfl dX6_payClaim_33 ?_
    refine j_iconst C0 (v := 1) dX6_payClaim_36 (by decide) ?_
    refine j_isub C0 dX6_payClaim_37 ?_
    refine c_put C0 in_X4 tyX4 tyX4_ok nmX4 (ci := 7) (P := (CIV Y tE ad (F 0) (F 1) (F 2) (G 0) (G 1) (G 2) (G 3) (G 4) (G 5) (G 6) (G 7) (G 8) (G 9) (G 10) (G 11) (G 12) (G 13) (G 14) (G 15) (G 16) (G 17) (G 18) (G 19) (N 0) (N 1) (N 2) (Q 0) (Q 1) sa ma)) (P' := (CIV Y tE ad (F 0) (F 1) (F 2) (G 0) (G 1) (G 2) (G 3) (G 4) (G 5) (G 6) (G 7) (G 8) (G 9) (G 10) (G 11) (G 12) (G 13) (G 14) (upd (G 15) ((a1).toNatClampNeg) (((G 15) ((a1).toNatClampNeg)) - (1 : Int32))) (G 16) (G 17) (G 18) (G 19) (N 0) (N 1) (N 2) (Q 0) (Q 1) sa ma)) rfl (20 + 2 * ((a1).toNatClampNeg)) (fun cel h => ci_s h ((a1).toNatClampNeg) hsA) 10 (by decide) wf_X6_220 rfl (tyX4_ok 10 (by decide)) rfl rfl (show 10 < 11 from by decide) dX6_payClaim_38 (fun cel h => cs_10 _ h hsA) ?_
    refine j_aload_n C0 dX6_payClaim_41 rfl ?_
    refine j_aload_n C0 dX6_payClaim_42 rfl ?_
    refine j_iload_n C0 dX6_payClaim_43 rfl ?_
    refine j_ineg C0 dX6_payClaim_44 ?_
    refine j_callVn C0 (k_X6_payPort hsl ad F (hu G 15 (upd (G 15) ((a1).toNatClampNeg) (((G 15) ((a1).toNatClampNeg)) - (1 : Int32)))) N Q sa ma  (((a1).toNatClampNeg)) ((-((80 : Int32) * ((G 6) ((a1).toNatClampNeg))))) hsA ) mv_X6_payPort wm_X6_227 (c_recv C0 (ci := 9) rfl 0 (fun cel h => ⟨_, ci_0 h⟩)) rfl rfl ⟨Nat.le_of_ble_eq_true rfl, Nat.le_of_ble_eq_true rfl⟩ (Nat.le_of_ble_eq_true rfl) ⟨(Nat.le_of_ble_eq_true rfl), (Nat.le_of_ble_eq_true rfl)⟩ dX6_payClaim_45 ?_
    show J p l e _ s m args below meth c A 4 _ (CO D Y A tE ad (F 0) (F 1) ((F 2) + (-((80 : Int32) * ((G 6) ((a1).toNatClampNeg))))) (G 0) (G 1) (G 2) (G 3) (G 4) (G 5) (G 6) (G 7) (G 8) (G 9) (G 10) (G 11) (G 12) (upd (G 13) ((a1).toNatClampNeg) (((G 13) ((a1).toNatClampNeg)) + (-((80 : Int32) * ((G 6) ((a1).toNatClampNeg)))))) (G 14) (upd (G 15) ((a1).toNatClampNeg) (((G 15) ((a1).toNatClampNeg)) - (1 : Int32))) (G 16) (G 17) (G 18) (G 19) (N 0) (N 1) (N 2) (Q 0) (Q 1) sa ma) (0 + 1) (0 + 6) 48 [(0, .ref (ad 0)), (1, .int (a1)), (2, .ref ((sa (a1).toNatClampNeg))), (3, .int (((80 : Int32) * ((G 6) ((a1).toNatClampNeg)))))] []
    refine j_iload_n C0 dX6_payClaim_48 rfl ?_
    refine j_xret (by rw [eX6_payClaim, if_pos q1, if_neg q2]) (Nat.le_of_ble_eq_true rfl) (Nat.le_of_ble_eq_true rfl) ?_
    exact j_iretE C0 rfl (by rw [vX6_payClaim, if_pos q1, if_neg q2]) dX6_payClaim_49 (fun H h => by rw [sX6_payClaim, if_pos q1, if_neg q2]; exact ⟨_, _, h⟩)
  ·
    exact j_throw C0 hexc hE (text := "the ship has no claim") rfl (by decide) at_S ag_S (by decide) dX6_payClaim_13 dX6_payClaim_16 dX6_payClaim_17 dX6_payClaim_19 dX6_payClaim_22 (by rw [eX6_payClaim, if_pos q1, if_pos q2]; decide) (by rw [eX6_payClaim, if_pos q1, if_pos q2]; rfl) GW.cw (fun H h => by rw [sX6_payClaim, if_pos q1, if_pos q2]; exact ⟨_, _, h⟩) (Nat.le_of_ble_eq_true rfl) (Nat.le_of_ble_eq_true rfl) (Nat.le_of_ble_eq_true rfl) (Nat.le_of_ble_eq_true rfl) (Nat.le_of_ble_eq_true rfl) (Nat.le_of_ble_eq_true rfl)
/-! ## HarborTides.hasWater(II)Z -/
def eX6_hasWater (F : Nat → Int32) (G : Nat → Nat → Int32) (N : Nat → Nat) (Q : Nat → Nat → Nat) (a1 : Int32) (a2 : Int32) : Nat := (if (eX6_shipAt F G N Q (a1)) = 0 then (if (eX6_checkRange (a2) ((0 : Int32)) ((3000 : Int32))) = 0 then (if (vX4_canMove F G N Q (((a1).toNatClampNeg))) = 0 then 0 else (if ((G 10) ((a1).toNatClampNeg)) = (2 : Int32) then (if (vX5_carries F G N Q (((a1).toNatClampNeg)) ((1 : Int32)) (a2)) = 0 then 0 else 0) else (if (vX5_carries F G N Q (((a1).toNatClampNeg)) ((0 : Int32)) (a2)) = 0 then 0 else 0))) else (eX6_checkRange (a2) ((0 : Int32)) ((3000 : Int32)))) else (eX6_shipAt F G N Q (a1)))
def vX6_hasWater (F : Nat → Int32) (G : Nat → Nat → Int32) (N : Nat → Nat) (Q : Nat → Nat → Nat) (a1 : Int32) (a2 : Int32) : Int32 := (if (eX6_shipAt F G N Q (a1)) = 0 then (if (eX6_checkRange (a2) ((0 : Int32)) ((3000 : Int32))) = 0 then (if (vX4_canMove F G N Q (((a1).toNatClampNeg))) = 0 then (0 : Int32) else (if ((G 10) ((a1).toNatClampNeg)) = (2 : Int32) then (if (vX5_carries F G N Q (((a1).toNatClampNeg)) ((1 : Int32)) (a2)) = 0 then (0 : Int32) else (1 : Int32)) else (if (vX5_carries F G N Q (((a1).toNatClampNeg)) ((0 : Int32)) (a2)) = 0 then (0 : Int32) else (1 : Int32)))) else (0 : Int32)) else (0 : Int32))
set_option maxRecDepth 100000 in
set_option maxHeartbeats 4000000 in
theorem k_X6_hasWater {l : Launch} (hsl : l.stackTraces = false) {D : va_G} {Y : Nat → ClassId} {A : Nat → Prop} {E : State → Prop} {tE : Nat} {mi : Nat} (hE : ∀ U, E U → EC A tE mi U) (ad : Nat → Nat) (F : Nat → Int32) (G : Nat → Nat → Int32) (N : Nat → Nat) (Q : Nat → Nat → Nat)  (a1 : Int32) (a2 : Int32)  (hb : ∀ i, i < N 0 → vp_in (G 9 i) 6) : XM l yX6_hasWater cX6_hasWater 4 (some .boolean) D Y A E 9 171 2 12 [.ref (ad 0), .int (a1), .int (a2)] (CA D Y A tE ad F G N Q) (some (.int (vX6_hasWater F G N Q a1 a2))) (eX6_hasWater F G N Q a1 a2) (CA D Y A tE ad F G N Q) := by
  refine XM_of RX6 [(0, .ref (ad 0)), (1, .int (a1)), (2, .int (a2))] rfl (by decide) hsl (Nat.le_of_ble_eq_true rfl) rfl (lok_of rfl rfl) ?_
  intro p e s m args below meth c C0 hexc
  refine j_ex (fun sa => ?_)
  refine j_ex (fun ma => ?_)
  show J p l e _ s m args below meth c A 4 _ (CO D Y A tE ad (F 0) (F 1) (F 2) (G 0) (G 1) (G 2) (G 3) (G 4) (G 5) (G 6) (G 7) (G 8) (G 9) (G 10) (G 11) (G 12) (G 13) (G 14) (G 15) (G 16) (G 17) (G 18) (G 19) (N 0) (N 1) (N 2) (Q 0) (Q 1) sa ma) 0 0 0 [(0, .ref (ad 0)), (1, .int (a1)), (2, .int (a2))] []
  refine c_fact (fun cel h => ci_f h) (fun hcf => ?_)
  obtain ⟨hn0, hn1, hn2, hq0, hq1⟩ := hcf
  refine j_aload_n C0 dX6_hasWater_0 rfl ?_
  refine j_iload_n C0 dX6_hasWater_1 rfl ?_
  refine j_xcallV C0 hexc (k_X6_shipAt hsl hE ad F G N Q sa ma (a1)  ) mv_X6_shipAt wm_X6_110 (c_recv C0 (ci := 9) rfl 0 (fun cel h => ⟨_, ci_0 h⟩)) rfl rfl ⟨Nat.le_of_ble_eq_true rfl, Nat.le_of_ble_eq_true rfl⟩ (Nat.le_of_ble_eq_true rfl) ⟨(Nat.le_of_ble_eq_true rfl), (Nat.le_of_ble_eq_true rfl)⟩ dX6_hasWater_2 ⟨(Nat.le_of_ble_eq_true rfl), (Nat.le_of_ble_eq_true rfl)⟩ (fun (q1 : ¬ (eX6_shipAt F G N Q (a1)) = 0) => ⟨by rw [eX6_hasWater, if_neg q1], fun H h => ⟨_, _, h⟩⟩) (fun (q1 : (eX6_shipAt F G N Q (a1)) = 0) => ?_)
  have hsA := sA_lt hn0 q1
  show J p l e _ s m args below meth c A 4 _ (CO D Y A tE ad (F 0) (F 1) (F 2) (G 0) (G 1) (G 2) (G 3) (G 4) (G 5) (G 6) (G 7) (G 8) (G 9) (G 10) (G 11) (G 12) (G 13) (G 14) (G 15) (G 16) (G 17) (G 18) (G 19) (N 0) (N 1) (N 2) (Q 0) (Q 1) sa ma) (0 + 1) (0 + 6) 5 [(0, .ref (ad 0)), (1, .int (a1)), (2, .int (a2))] [.ref ((sa (a1).toNatClampNeg))]
  refine j_astore_n C0 (L' := [(0, .ref (ad 0)), (1, .int (a1)), (2, .int (a2)), (3, .ref ((sa (a1).toNatClampNeg)))]) dX6_hasWater_5 (by decide) rfl ?_
  refine j_iload_n C0 dX6_hasWater_6 rfl ?_
  refine j_iconst C0 (v := 0) dX6_hasWater_7 (by decide) ?_
  refine j_sipush C0 (v := 3000) dX6_hasWater_8 (by decide) ?_
  refine j_xcallS C0 hexc (k_X6_checkRange hsl hE (a2) ((0 : Int32)) ((3000 : Int32)) GW.cw ) ms_X6_checkRange wm_X6_58 rfl rfl ⟨Nat.le_of_ble_eq_true rfl, Nat.le_of_ble_eq_true rfl⟩ (Nat.le_of_ble_eq_true rfl) ⟨(Nat.le_of_ble_eq_true rfl), (Nat.le_of_ble_eq_true rfl)⟩ dX6_hasWater_11 ⟨(Nat.le_of_ble_eq_true rfl), (Nat.le_of_ble_eq_true rfl)⟩ (fun (q2 : ¬ (eX6_checkRange (a2) ((0 : Int32)) ((3000 : Int32))) = 0) => ⟨by rw [eX6_hasWater, if_pos q1, if_neg q2], fun H h => ⟨_, _, h⟩⟩) (fun (q2 : (eX6_checkRange (a2) ((0 : Int32)) ((3000 : Int32))) = 0) => ?_)
  show J p l e _ s m args below meth c A 4 _ (CO D Y A tE ad (F 0) (F 1) (F 2) (G 0) (G 1) (G 2) (G 3) (G 4) (G 5) (G 6) (G 7) (G 8) (G 9) (G 10) (G 11) (G 12) (G 13) (G 14) (G 15) (G 16) (G 17) (G 18) (G 19) (N 0) (N 1) (N 2) (Q 0) (Q 1) sa ma) ((0 + 1) + 1) ((0 + 6) + 6) 14 [(0, .ref (ad 0)), (1, .int (a1)), (2, .int (a2)), (3, .ref ((sa (a1).toNatClampNeg)))] []
  refine j_aload_n C0 dX6_hasWater_14 rfl ?_
  refine j_callVv C0 (k_X4_canMove hsl ad F G N Q sa ma (((a1).toNatClampNeg)) hsA   ) mv_X4_canMove wm_X6_114 (c_recv C0 (ci := 7) rfl (20 + 2 * ((a1).toNatClampNeg)) (fun cel h => ⟨_, ci_s h ((a1).toNatClampNeg) hsA⟩)) rfl rfl ⟨Nat.le_of_ble_eq_true rfl, Nat.le_of_ble_eq_true rfl⟩ (Nat.le_of_ble_eq_true rfl) ⟨(Nat.le_of_ble_eq_true rfl), (Nat.le_of_ble_eq_true rfl)⟩ dX6_hasWater_15 ?_
  show J p l e _ s m args below meth c A 4 _ (CO D Y A tE ad (F 0) (F 1) (F 2) (G 0) (G 1) (G 2) (G 3) (G 4) (G 5) (G 6) (G 7) (G 8) (G 9) (G 10) (G 11) (G 12) (G 13) (G 14) (G 15) (G 16) (G 17) (G 18) (G 19) (N 0) (N 1) (N 2) (Q 0) (Q 1) sa ma) ((0 + 1) + 1) ((0 + 6) + 6) 18 [(0, .ref (ad 0)), (1, .int (a1)), (2, .int (a2)), (3, .ref ((sa (a1).toNatClampNeg)))] [.int ((vX4_canMove F G N Q (((a1).toNatClampNeg))))]
  refine j_if_eq C0 50 dX6_hasWater_18 (by decide) (fun (q3 : (vX4_canMove F G N Q (((a1).toNatClampNeg))) = 0) => ?_) (fun (q3 : ¬ ((vX4_canMove F G N Q (((a1).toNatClampNeg))) = 0)) => ?_)
  ·
    refine j_iconst C0 (v := 0) dX6_hasWater_50 (by decide) ?_
    refine j_xret (by rw [eX6_hasWater, if_pos q1, if_pos q2, if_pos q3]) (Nat.le_of_ble_eq_true rfl) (Nat.le_of_ble_eq_true rfl) ?_
    exact j_zretE C0 rfl (by rw [vX6_hasWater, if_pos q1, if_pos q2, if_pos q3]) (by decide) dX6_hasWater_51 (fun H h => ⟨_, _, h⟩)
  ·
    refine j_aload_n C0 dX6_hasWater_21 rfl ?_
    refine c_get C0 in_X6 (ci := 9) rfl 0 (fun cel h => ci_0 h) 0 (by decide) wf_X6_10 rfl dX6_hasWater_22 ?_
    refine j_aload_n C0 dX6_hasWater_25 rfl ?_
    refine j_aload_n C0 dX6_hasWater_26 rfl ?_
    refine c_get C0 in_X4 (ci := 7) rfl (20 + 2 * ((a1).toNatClampNeg)) (fun cel h => ci_s h ((a1).toNatClampNeg) hsA) 5 (by decide) wf_X6_138 (v := .int (((G 10) ((a1).toNatClampNeg)))) rfl dX6_hasWater_27 ?_
    refine j_iconst C0 (v := 2) dX6_hasWater_30 (by decide) ?_
    refine j_icmp_ne C0 38 dX6_hasWater_31 (by decide) (fun (q4 : ¬ (((G 10) ((a1).toNatClampNeg)) = (2 : Int32))) => ?_) (fun (q4 : ((G 10) ((a1).toNatClampNeg)) = (2 : Int32)) => ?_)
    ·
      refine j_iconst C0 (v := 0) dX6_hasWater_38 (by decide) ?_
      refine j_iload_n C0 dX6_hasWater_39 rfl ?_
      refine j_callVv C0 (k_X5_carries hsl ad F G N Q sa ma  (((a1).toNatClampNeg)) ((0 : Int32)) (a2) hsA hb (vp_mono (cr_vp (n := 3001) q2 (by decide)) (by decide)) (vp_mono (vp_up (by decide) (cr_vp (n := 3001) q2 (by decide))) (by decide))) mv_X5_carries wm_X6_141 (c_recv C0 (ci := 8) rfl 1 (fun cel h => ⟨_, ci_1 h⟩)) rfl rfl ⟨Nat.le_of_ble_eq_true rfl, Nat.le_of_ble_eq_true rfl⟩ (Nat.le_of_ble_eq_true rfl) ⟨(Nat.le_of_ble_eq_true rfl), (Nat.le_of_ble_eq_true rfl)⟩ dX6_hasWater_40 ?_
      show J p l e _ s m args below meth c A 4 _ (CO D Y A tE ad (F 0) (F 1) (F 2) (G 0) (G 1) (G 2) (G 3) (G 4) (G 5) (G 6) (G 7) (G 8) (G 9) (G 10) (G 11) (G 12) (G 13) (G 14) (G 15) (G 16) (G 17) (G 18) (G 19) (N 0) (N 1) (N 2) (Q 0) (Q 1) sa ma) ((0 + 1) + 1) ((0 + 6) + 6) 43 [(0, .ref (ad 0)), (1, .int (a1)), (2, .int (a2)), (3, .ref ((sa (a1).toNatClampNeg)))] [.int ((vX5_carries F G N Q (((a1).toNatClampNeg)) ((0 : Int32)) (a2)))]
      refine j_if_eq C0 50 dX6_hasWater_43 (by decide) (fun (q5 : (vX5_carries F G N Q (((a1).toNatClampNeg)) ((0 : Int32)) (a2)) = 0) => ?_) (fun (q5 : ¬ ((vX5_carries F G N Q (((a1).toNatClampNeg)) ((0 : Int32)) (a2)) = 0)) => ?_)
      ·
        refine j_iconst C0 (v := 0) dX6_hasWater_50 (by decide) ?_
        refine j_xret (by rw [eX6_hasWater, if_pos q1, if_pos q2, if_neg q3, if_neg q4, if_pos q5]) (Nat.le_of_ble_eq_true rfl) (Nat.le_of_ble_eq_true rfl) ?_
        exact j_zretE C0 rfl (by rw [vX6_hasWater, if_pos q1, if_pos q2, if_neg q3, if_neg q4, if_pos q5]) (by decide) dX6_hasWater_51 (fun H h => ⟨_, _, h⟩)
      ·
        refine j_iconst C0 (v := 1) dX6_hasWater_46 (by decide) ?_
        refine j_goto C0 51 dX6_hasWater_47 (by decide) ?_
        refine j_xret (by rw [eX6_hasWater, if_pos q1, if_pos q2, if_neg q3, if_neg q4, if_neg q5]) (Nat.le_of_ble_eq_true rfl) (Nat.le_of_ble_eq_true rfl) ?_
        exact j_zretE C0 rfl (by rw [vX6_hasWater, if_pos q1, if_pos q2, if_neg q3, if_neg q4, if_neg q5]) (by decide) dX6_hasWater_51 (fun H h => ⟨_, _, h⟩)
    ·
      refine j_iconst C0 (v := 1) dX6_hasWater_34 (by decide) ?_
      refine j_goto C0 39 dX6_hasWater_35 (by decide) ?_
      refine j_iload_n C0 dX6_hasWater_39 rfl ?_
      refine j_callVv C0 (k_X5_carries hsl ad F G N Q sa ma  (((a1).toNatClampNeg)) ((1 : Int32)) (a2) hsA hb (vp_mono (cr_vp (n := 3001) q2 (by decide)) (by decide)) (vp_mono (vp_up (by decide) (cr_vp (n := 3001) q2 (by decide))) (by decide))) mv_X5_carries wm_X6_141 (c_recv C0 (ci := 8) rfl 1 (fun cel h => ⟨_, ci_1 h⟩)) rfl rfl ⟨Nat.le_of_ble_eq_true rfl, Nat.le_of_ble_eq_true rfl⟩ (Nat.le_of_ble_eq_true rfl) ⟨(Nat.le_of_ble_eq_true rfl), (Nat.le_of_ble_eq_true rfl)⟩ dX6_hasWater_40 ?_
      show J p l e _ s m args below meth c A 4 _ (CO D Y A tE ad (F 0) (F 1) (F 2) (G 0) (G 1) (G 2) (G 3) (G 4) (G 5) (G 6) (G 7) (G 8) (G 9) (G 10) (G 11) (G 12) (G 13) (G 14) (G 15) (G 16) (G 17) (G 18) (G 19) (N 0) (N 1) (N 2) (Q 0) (Q 1) sa ma) ((0 + 1) + 1) ((0 + 6) + 6) 43 [(0, .ref (ad 0)), (1, .int (a1)), (2, .int (a2)), (3, .ref ((sa (a1).toNatClampNeg)))] [.int ((vX5_carries F G N Q (((a1).toNatClampNeg)) ((1 : Int32)) (a2)))]
      refine j_if_eq C0 50 dX6_hasWater_43 (by decide) (fun (q6 : (vX5_carries F G N Q (((a1).toNatClampNeg)) ((1 : Int32)) (a2)) = 0) => ?_) (fun (q6 : ¬ ((vX5_carries F G N Q (((a1).toNatClampNeg)) ((1 : Int32)) (a2)) = 0)) => ?_)
      ·
        refine j_iconst C0 (v := 0) dX6_hasWater_50 (by decide) ?_
        refine j_xret (by rw [eX6_hasWater, if_pos q1, if_pos q2, if_neg q3, if_pos q4, if_pos q6]) (Nat.le_of_ble_eq_true rfl) (Nat.le_of_ble_eq_true rfl) ?_
        exact j_zretE C0 rfl (by rw [vX6_hasWater, if_pos q1, if_pos q2, if_neg q3, if_pos q4, if_pos q6]) (by decide) dX6_hasWater_51 (fun H h => ⟨_, _, h⟩)
      ·
        refine j_iconst C0 (v := 1) dX6_hasWater_46 (by decide) ?_
        refine j_goto C0 51 dX6_hasWater_47 (by decide) ?_
        refine j_xret (by rw [eX6_hasWater, if_pos q1, if_pos q2, if_neg q3, if_pos q4, if_neg q6]) (Nat.le_of_ble_eq_true rfl) (Nat.le_of_ble_eq_true rfl) ?_
        exact j_zretE C0 rfl (by rw [vX6_hasWater, if_pos q1, if_pos q2, if_neg q3, if_pos q4, if_neg q6]) (by decide) dX6_hasWater_51 (fun H h => ⟨_, _, h⟩)
/-! ## HarborTides.order(II)I -/
def eX6_order (F : Nat → Int32) (G : Nat → Nat → Int32) (N : Nat → Nat) (Q : Nat → Nat → Nat) (a1 : Int32) (a2 : Int32) : Nat := (if (eX6_shipAt F G N Q (a1)) = 0 then (if (eX6_checkRange (a2) (((F 0) + (1 : Int32))) ((3000 : Int32))) = 0 then (if (vX4_canMove F G N Q (((a1).toNatClampNeg))) = 0 then 3 else (if (vX4_hasOrder F G N Q (((a1).toNatClampNeg))) = 0 then 0 else 3)) else (eX6_checkRange (a2) (((F 0) + (1 : Int32))) ((3000 : Int32)))) else (eX6_shipAt F G N Q (a1)))
def vX6_order (F : Nat → Int32) (G : Nat → Nat → Int32) (N : Nat → Nat) (Q : Nat → Nat → Nat) (a1 : Int32) (a2 : Int32) : Int32 := (if (eX6_shipAt F G N Q (a1)) = 0 then (if (eX6_checkRange (a2) (((F 0) + (1 : Int32))) ((3000 : Int32))) = 0 then (if (vX4_canMove F G N Q (((a1).toNatClampNeg))) = 0 then (0 : Int32) else (if (vX4_hasOrder F G N Q (((a1).toNatClampNeg))) = 0 then nI (sX2_insert F (hu G 12 (upd (G 12) ((a1).toNatClampNeg) a2)) N Q (((a1).toNatClampNeg))).1 else (0 : Int32))) else (0 : Int32)) else (0 : Int32))
def sX6_order (F : Nat → Int32) (G : Nat → Nat → Int32) (N : Nat → Nat) (Q : Nat → Nat → Nat) (a1 : Int32) (a2 : Int32) : Nat × (Nat → Nat) × (Nat → Int32) := (if (eX6_shipAt F G N Q (a1)) = 0 then (if (eX6_checkRange (a2) (((F 0) + (1 : Int32))) ((3000 : Int32))) = 0 then (if (vX4_canMove F G N Q (((a1).toNatClampNeg))) = 0 then ((N 2), (Q 0), (G 12)) else (if (vX4_hasOrder F G N Q (((a1).toNatClampNeg))) = 0 then ((sX2_insert F (hu G 12 (upd (G 12) ((a1).toNatClampNeg) a2)) N Q (((a1).toNatClampNeg))).1, (sX2_insert F (hu G 12 (upd (G 12) ((a1).toNatClampNeg) a2)) N Q (((a1).toNatClampNeg))).2, (upd (G 12) ((a1).toNatClampNeg) a2)) else ((N 2), (Q 0), (G 12)))) else ((N 2), (Q 0), (G 12))) else ((N 2), (Q 0), (G 12)))
set_option maxRecDepth 100000 in
set_option maxHeartbeats 4000000 in
theorem k_X6_order {l : Launch} (hsl : l.stackTraces = false) {D : va_G} {Y : Nat → ClassId} {A : Nat → Prop} {E : State → Prop} {tE : Nat} {mi : Nat} (hE : ∀ U, E U → EC A tE mi U) (ad : Nat → Nat) (F : Nat → Int32) (G : Nat → Nat → Int32) (N : Nat → Nat) (Q : Nat → Nat → Nat)  (a1 : Int32) (a2 : Int32)  (h9 : N 2 < 100) : XM l yX6_order cX6_order 4 (some .int) D Y A E 9 322 8 300 [.ref (ad 0), .int (a1), .int (a2)] (CA D Y A tE ad F G N Q) (some (.int (vX6_order F G N Q a1 a2))) (eX6_order F G N Q a1 a2) (CA D Y A tE ad F (hu G 12 (sX6_order F G N Q a1 a2).2.2) (hu N 2 (sX6_order F G N Q a1 a2).1) (hu Q 0 (sX6_order F G N Q a1 a2).2.1)) := by
  refine XM_of RX6 [(0, .ref (ad 0)), (1, .int (a1)), (2, .int (a2))] rfl (by decide) hsl (Nat.le_of_ble_eq_true rfl) rfl (lok_of rfl rfl) ?_
  intro p e s m args below meth c C0 hexc
  refine j_ex (fun sa => ?_)
  refine j_ex (fun ma => ?_)
  show J p l e _ s m args below meth c A 4 _ (CO D Y A tE ad (F 0) (F 1) (F 2) (G 0) (G 1) (G 2) (G 3) (G 4) (G 5) (G 6) (G 7) (G 8) (G 9) (G 10) (G 11) (G 12) (G 13) (G 14) (G 15) (G 16) (G 17) (G 18) (G 19) (N 0) (N 1) (N 2) (Q 0) (Q 1) sa ma) 0 0 0 [(0, .ref (ad 0)), (1, .int (a1)), (2, .int (a2))] []
  refine c_fact (fun cel h => ci_f h) (fun hcf => ?_)
  obtain ⟨hn0, hn1, hn2, hq0, hq1⟩ := hcf
  refine j_aload_n C0 dX6_order_0 rfl ?_
  refine j_iload_n C0 dX6_order_1 rfl ?_
  refine j_xcallV C0 hexc (k_X6_shipAt hsl hE ad F G N Q sa ma (a1)  ) mv_X6_shipAt wm_X6_110 (c_recv C0 (ci := 9) rfl 0 (fun cel h => ⟨_, ci_0 h⟩)) rfl rfl ⟨Nat.le_of_ble_eq_true rfl, Nat.le_of_ble_eq_true rfl⟩ (Nat.le_of_ble_eq_true rfl) ⟨(Nat.le_of_ble_eq_true rfl), (Nat.le_of_ble_eq_true rfl)⟩ dX6_order_2 ⟨(Nat.le_of_ble_eq_true rfl), (Nat.le_of_ble_eq_true rfl)⟩ (fun (q1 : ¬ (eX6_shipAt F G N Q (a1)) = 0) => ⟨by rw [eX6_order, if_neg q1], fun H h => by rw [sX6_order, if_neg q1]; exact ⟨_, _, h⟩⟩) (fun (q1 : (eX6_shipAt F G N Q (a1)) = 0) => ?_)
  have hsA := sA_lt hn0 q1
  show J p l e _ s m args below meth c A 4 _ (CO D Y A tE ad (F 0) (F 1) (F 2) (G 0) (G 1) (G 2) (G 3) (G 4) (G 5) (G 6) (G 7) (G 8) (G 9) (G 10) (G 11) (G 12) (G 13) (G 14) (G 15) (G 16) (G 17) (G 18) (G 19) (N 0) (N 1) (N 2) (Q 0) (Q 1) sa ma) (0 + 1) (0 + 6) 5 [(0, .ref (ad 0)), (1, .int (a1)), (2, .int (a2))] [.ref ((sa (a1).toNatClampNeg))]
  refine j_astore_n C0 (L' := [(0, .ref (ad 0)), (1, .int (a1)), (2, .int (a2)), (3, .ref ((sa (a1).toNatClampNeg)))]) dX6_order_5 (by decide) rfl ?_
  refine j_iload_n C0 dX6_order_6 rfl ?_
  refine j_aload_n C0 dX6_order_7 rfl ?_
  refine c_get C0 in_X6 (ci := 9) rfl 0 (fun cel h => ci_0 h) 5 (by decide) wf_X6_44 (v := .int ((F 0))) rfl dX6_order_8 ?_
  refine j_iconst C0 (v := 1) dX6_order_11 (by decide) ?_
  refine j_iadd C0 dX6_order_12 ?_
  refine j_sipush C0 (v := 3000) dX6_order_13 (by decide) ?_
  refine j_xcallS C0 hexc (k_X6_checkRange hsl hE (a2) (((F 0) + (1 : Int32))) ((3000 : Int32)) GW.cw ) ms_X6_checkRange wm_X6_58 rfl rfl ⟨Nat.le_of_ble_eq_true rfl, Nat.le_of_ble_eq_true rfl⟩ (Nat.le_of_ble_eq_true rfl) ⟨(Nat.le_of_ble_eq_true rfl), (Nat.le_of_ble_eq_true rfl)⟩ dX6_order_16 ⟨(Nat.le_of_ble_eq_true rfl), (Nat.le_of_ble_eq_true rfl)⟩ (fun (q2 : ¬ (eX6_checkRange (a2) (((F 0) + (1 : Int32))) ((3000 : Int32))) = 0) => ⟨by rw [eX6_order, if_pos q1, if_neg q2], fun H h => by rw [sX6_order, if_pos q1, if_neg q2]; exact ⟨_, _, h⟩⟩) (fun (q2 : (eX6_checkRange (a2) (((F 0) + (1 : Int32))) ((3000 : Int32))) = 0) => ?_)
  show J p l e _ s m args below meth c A 4 _ (CO D Y A tE ad (F 0) (F 1) (F 2) (G 0) (G 1) (G 2) (G 3) (G 4) (G 5) (G 6) (G 7) (G 8) (G 9) (G 10) (G 11) (G 12) (G 13) (G 14) (G 15) (G 16) (G 17) (G 18) (G 19) (N 0) (N 1) (N 2) (Q 0) (Q 1) sa ma) ((0 + 1) + 1) ((0 + 6) + 6) 19 [(0, .ref (ad 0)), (1, .int (a1)), (2, .int (a2)), (3, .ref ((sa (a1).toNatClampNeg)))] []
  refine j_aload_n C0 dX6_order_19 rfl ?_
  refine j_callVv C0 (k_X4_canMove hsl ad F G N Q sa ma (((a1).toNatClampNeg)) hsA   ) mv_X4_canMove wm_X6_114 (c_recv C0 (ci := 7) rfl (20 + 2 * ((a1).toNatClampNeg)) (fun cel h => ⟨_, ci_s h ((a1).toNatClampNeg) hsA⟩)) rfl rfl ⟨Nat.le_of_ble_eq_true rfl, Nat.le_of_ble_eq_true rfl⟩ (Nat.le_of_ble_eq_true rfl) ⟨(Nat.le_of_ble_eq_true rfl), (Nat.le_of_ble_eq_true rfl)⟩ dX6_order_20 ?_
  show J p l e _ s m args below meth c A 4 _ (CO D Y A tE ad (F 0) (F 1) (F 2) (G 0) (G 1) (G 2) (G 3) (G 4) (G 5) (G 6) (G 7) (G 8) (G 9) (G 10) (G 11) (G 12) (G 13) (G 14) (G 15) (G 16) (G 17) (G 18) (G 19) (N 0) (N 1) (N 2) (Q 0) (Q 1) sa ma) ((0 + 1) + 1) ((0 + 6) + 6) 23 [(0, .ref (ad 0)), (1, .int (a1)), (2, .int (a2)), (3, .ref ((sa (a1).toNatClampNeg)))] [.int ((vX4_canMove F G N Q (((a1).toNatClampNeg))))]
  refine j_if_ne C0 36 dX6_order_23 (by decide) (fun (q3 : ¬ ((vX4_canMove F G N Q (((a1).toNatClampNeg))) = 0)) => ?_) (fun (q3 : (vX4_canMove F G N Q (((a1).toNatClampNeg))) = 0) => ?_)
  ·
    refine j_aload_n C0 dX6_order_36 rfl ?_
    refine j_callVv C0 (k_X4_hasOrder hsl ad F G N Q sa ma (((a1).toNatClampNeg)) hsA   ) mv_X4_hasOrder wm_X6_120 (c_recv C0 (ci := 7) rfl (20 + 2 * ((a1).toNatClampNeg)) (fun cel h => ⟨_, ci_s h ((a1).toNatClampNeg) hsA⟩)) rfl rfl ⟨Nat.le_of_ble_eq_true rfl, Nat.le_of_ble_eq_true rfl⟩ (Nat.le_of_ble_eq_true rfl) ⟨(Nat.le_of_ble_eq_true rfl), (Nat.le_of_ble_eq_true rfl)⟩ dX6_order_37 ?_
    show J p l e _ s m args below meth c A 4 _ (CO D Y A tE ad (F 0) (F 1) (F 2) (G 0) (G 1) (G 2) (G 3) (G 4) (G 5) (G 6) (G 7) (G 8) (G 9) (G 10) (G 11) (G 12) (G 13) (G 14) (G 15) (G 16) (G 17) (G 18) (G 19) (N 0) (N 1) (N 2) (Q 0) (Q 1) sa ma) ((0 + 1) + 1) ((0 + 6) + 6) 40 [(0, .ref (ad 0)), (1, .int (a1)), (2, .int (a2)), (3, .ref ((sa (a1).toNatClampNeg)))] [.int ((vX4_hasOrder F G N Q (((a1).toNatClampNeg))))]
    refine j_if_eq C0 53 dX6_order_40 (by decide) (fun (q4 : (vX4_hasOrder F G N Q (((a1).toNatClampNeg))) = 0) => ?_) (fun (q4 : ¬ ((vX4_hasOrder F G N Q (((a1).toNatClampNeg))) = 0)) => ?_)
    ·
      refine j_aload_n C0 dX6_order_53 rfl ?_
      refine j_iload_n C0 dX6_order_54 rfl ?_
      refine c_put C0 in_X4 tyX4 tyX4_ok nmX4 (ci := 7) (P := (CIV Y tE ad (F 0) (F 1) (F 2) (G 0) (G 1) (G 2) (G 3) (G 4) (G 5) (G 6) (G 7) (G 8) (G 9) (G 10) (G 11) (G 12) (G 13) (G 14) (G 15) (G 16) (G 17) (G 18) (G 19) (N 0) (N 1) (N 2) (Q 0) (Q 1) sa ma)) (P' := (CIV Y tE ad (F 0) (F 1) (F 2) (G 0) (G 1) (G 2) (G 3) (G 4) (G 5) (G 6) (G 7) (G 8) (G 9) (G 10) (G 11) (upd (G 12) ((a1).toNatClampNeg) a2) (G 13) (G 14) (G 15) (G 16) (G 17) (G 18) (G 19) (N 0) (N 1) (N 2) (Q 0) (Q 1) sa ma)) rfl (20 + 2 * ((a1).toNatClampNeg)) (fun cel h => ci_s h ((a1).toNatClampNeg) hsA) 7 (by decide) wf_X6_125 rfl (tyX4_ok 7 (by decide)) rfl rfl (show 7 < 11 from by decide) dX6_order_55 (fun cel h => cs_7 _ h hsA) ?_
      refine j_aload_n C0 dX6_order_58 rfl ?_
      refine c_get C0 in_X6 (ci := 9) rfl 0 (fun cel h => ci_0 h) 4 (by decide) wf_X6_40 rfl dX6_order_59 ?_
      refine j_aload_n C0 dX6_order_62 rfl ?_
      refine j_callVn C0 (k_X2_insert hsl hE ad F (hu G 12 (upd (G 12) ((a1).toNatClampNeg) a2)) N Q sa ma  (((a1).toNatClampNeg)) hsA h9) mv_X2_insert wm_X6_128 (c_recv C0 (ci := 5) rfl 5 (fun cel h => ⟨_, ci_5 h⟩)) rfl rfl ⟨Nat.le_of_ble_eq_true rfl, Nat.le_of_ble_eq_true rfl⟩ (Nat.le_of_ble_eq_true rfl) ⟨(Nat.le_of_ble_eq_true rfl), (Nat.le_of_ble_eq_true rfl)⟩ dX6_order_63 ?_
      show J p l e _ s m args below meth c A 4 _ (CO D Y A tE ad (F 0) (F 1) (F 2) (G 0) (G 1) (G 2) (G 3) (G 4) (G 5) (G 6) (G 7) (G 8) (G 9) (G 10) (G 11) (upd (G 12) ((a1).toNatClampNeg) a2) (G 13) (G 14) (G 15) (G 16) (G 17) (G 18) (G 19) (N 0) (N 1) (sX2_insert F (hu G 12 (upd (G 12) ((a1).toNatClampNeg) a2)) N Q (((a1).toNatClampNeg))).1 (sX2_insert F (hu G 12 (upd (G 12) ((a1).toNatClampNeg) a2)) N Q (((a1).toNatClampNeg))).2 (Q 1) sa ma) (((0 + 1) + 1) + 1) (((0 + 6) + 6) + 160) 66 [(0, .ref (ad 0)), (1, .int (a1)), (2, .int (a2)), (3, .ref ((sa (a1).toNatClampNeg)))] []
      refine j_aload_n C0 dX6_order_66 rfl ?_
      refine c_get C0 in_X6 (ci := 9) rfl 0 (fun cel h => ci_0 h) 4 (by decide) wf_X6_40 rfl dX6_order_67 ?_
      refine j_callVv C0 (k_X2_count hsl ad F (hu G 12 (upd (G 12) ((a1).toNatClampNeg) a2)) (hu N 2 (sX2_insert F (hu G 12 (upd (G 12) ((a1).toNatClampNeg) a2)) N Q (((a1).toNatClampNeg))).1) (hu Q 0 (sX2_insert F (hu G 12 (upd (G 12) ((a1).toNatClampNeg) a2)) N Q (((a1).toNatClampNeg))).2) sa ma    ) mv_X2_count wm_X6_132 (c_recv C0 (ci := 5) rfl 5 (fun cel h => ⟨_, ci_5 h⟩)) rfl rfl ⟨Nat.le_of_ble_eq_true rfl, Nat.le_of_ble_eq_true rfl⟩ (Nat.le_of_ble_eq_true rfl) ⟨(Nat.le_of_ble_eq_true rfl), (Nat.le_of_ble_eq_true rfl)⟩ dX6_order_70 ?_
      show J p l e _ s m args below meth c A 4 _ (CO D Y A tE ad (F 0) (F 1) (F 2) (G 0) (G 1) (G 2) (G 3) (G 4) (G 5) (G 6) (G 7) (G 8) (G 9) (G 10) (G 11) (upd (G 12) ((a1).toNatClampNeg) a2) (G 13) (G 14) (G 15) (G 16) (G 17) (G 18) (G 19) (N 0) (N 1) (sX2_insert F (hu G 12 (upd (G 12) ((a1).toNatClampNeg) a2)) N Q (((a1).toNatClampNeg))).1 (sX2_insert F (hu G 12 (upd (G 12) ((a1).toNatClampNeg) a2)) N Q (((a1).toNatClampNeg))).2 (Q 1) sa ma) (((0 + 1) + 1) + 1) (((0 + 6) + 6) + 160) 73 [(0, .ref (ad 0)), (1, .int (a1)), (2, .int (a2)), (3, .ref ((sa (a1).toNatClampNeg)))] [.int (nI (sX2_insert F (hu G 12 (upd (G 12) ((a1).toNatClampNeg) a2)) N Q (((a1).toNatClampNeg))).1)]
      refine j_xret (by rw [eX6_order, if_pos q1, if_pos q2, if_neg q3, if_pos q4]) (Nat.le_of_ble_eq_true rfl) (Nat.le_of_ble_eq_true rfl) ?_
      exact j_iretE C0 rfl (by rw [vX6_order, if_pos q1, if_pos q2, if_neg q3, if_pos q4]) dX6_order_73 (fun H h => by rw [sX6_order, if_pos q1, if_pos q2, if_neg q3, if_pos q4]; exact ⟨_, _, h⟩)
    ·
      exact j_throw C0 hexc hE (text := "the ship has an order") rfl (by decide) at_S ag_S (by decide) dX6_order_43 dX6_order_46 dX6_order_47 dX6_order_49 dX6_order_52 (by rw [eX6_order, if_pos q1, if_pos q2, if_neg q3, if_neg q4]; decide) (by rw [eX6_order, if_pos q1, if_pos q2, if_neg q3, if_neg q4]; rfl) GW.cw (fun H h => by rw [sX6_order, if_pos q1, if_pos q2, if_neg q3, if_neg q4]; exact ⟨_, _, h⟩) (Nat.le_of_ble_eq_true rfl) (Nat.le_of_ble_eq_true rfl) (Nat.le_of_ble_eq_true rfl) (Nat.le_of_ble_eq_true rfl) (Nat.le_of_ble_eq_true rfl) (Nat.le_of_ble_eq_true rfl)
  ·
    exact j_throw C0 hexc hE (text := "the ship is neither at sea nor moored") rfl (by decide) at_S ag_S (by decide) dX6_order_26 dX6_order_29 dX6_order_30 dX6_order_32 dX6_order_35 (by rw [eX6_order, if_pos q1, if_pos q2, if_pos q3]; decide) (by rw [eX6_order, if_pos q1, if_pos q2, if_pos q3]; rfl) GW.cw (fun H h => by rw [sX6_order, if_pos q1, if_pos q2, if_pos q3]; exact ⟨_, _, h⟩) (Nat.le_of_ble_eq_true rfl) (Nat.le_of_ble_eq_true rfl) (Nat.le_of_ble_eq_true rfl) (Nat.le_of_ble_eq_true rfl) (Nat.le_of_ble_eq_true rfl) (Nat.le_of_ble_eq_true rfl)
