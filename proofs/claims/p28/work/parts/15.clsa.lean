/-! THE CLASS'S METHODS -/
def CR (D : va_G) (Y : Nat → ClassId) (A : Nat → Prop) (tE : Nat) (ad : Nat → Nat) (F : Nat → Int32) (G : Nat → Nat → Int32) (N : Nat → Nat) (Q : Nat → Nat → Nat) (sa ma : Nat → Nat) : Heap → Prop := CO D Y A tE ad (F 0) (F 1) (F 2) (G 0) (G 1) (G 2) (G 3) (G 4) (G 5) (G 6) (G 7) (G 8) (G 9) (G 10) (G 11) (G 12) (G 13) (G 14) (G 15) (G 16) (G 17) (G 18) (G 19) (N 0) (N 1) (N 2) (Q 0) (Q 1) sa ma
theorem co_inj {D : va_G} {A : Nat → Prop} {Y : Nat → ClassId} {tE : Nat} {ad : Nat → Nat} {x0 x1 x2 : Int32} {g0 g1 g2 g3 g4 g5 g6 g7 g8 g9 g10 g11 g12 g13 g14 g15 g16 g17 g18 g19 : Nat → Int32} {n0 n1 n2 : Nat} {q0 q1 sa ma : Nat → Nat} {H : Heap} (h : CO D Y A tE ad x0 x1 x2 g0 g1 g2 g3 g4 g5 g6 g7 g8 g9 g10 g11 g12 g13 g14 g15 g16 g17 g18 g19 n0 n1 n2 q0 q1 sa ma H) {i j : Nat} (hi : i < n0) (hj : j < n0) : sa i = sa j → i = j := by
  intro e
  obtain ⟨cel, h1, h2⟩ := h
  have := h2.inj (ci_s h1 i hi) (ci_s h1 j hj) e
  omega
theorem c_fact2 {p : Program} {l : Launch} {e : Env} {R : Room} {s : State} {m : MethodId} {args : Array Value} {below : List Frame} {meth : Method} {c : Code} {A : Nat → Prop} {Q : State → Prop} {Ω : Heap → Prop} {cells slots pc nL : Nat} {L : List (Nat × Value)} {st : List Value} {F : Prop} (h : ∀ H, Ω H → F) (kk : F → J p l e R s m args below meth c A nL Q Ω cells slots pc L st) : J p l e R s m args below meth c A nL Q Ω cells slots pc L st := j_get_fact h kk
/-! ## HarborTides$Ship.canMove()Z -/
def vX4_canMove (F : Nat → Int32) (G : Nat → Nat → Int32) (N : Nat → Nat) (Q : Nat → Nat → Nat) (i : Nat) : Int32 := (if ((G 10) i) = 0 then (1 : Int32) else (if ((G 10) i) = (2 : Int32) then (1 : Int32) else (0 : Int32)))
set_option maxRecDepth 100000 in
set_option maxHeartbeats 4000000 in
theorem k_X4_canMove {l : Launch} (hsl : l.stackTraces = false) {D : va_G} {Y : Nat → ClassId} {A : Nat → Prop} {E : State → Prop} {tE : Nat} (ad : Nat → Nat) (F : Nat → Int32) (G : Nat → Nat → Int32) (N : Nat → Nat) (Q : Nat → Nat → Nat) (sa ma : Nat → Nat) (i : Nat) (hi : i < N 0)   : KM l yX4_canMove cX4_canMove 1 (some .boolean) D Y A E 0 0 0 0 [.ref ((sa i))] (CR D Y A tE ad F G N Q sa ma) (some (.int (vX4_canMove F G N Q i))) (CR D Y A tE ad F G N Q sa ma) := by
  refine KM_of RX4 [(0, .ref ((sa i)))] rfl (by decide) hsl (Nat.le_of_ble_eq_true rfl) rfl (lok_of rfl rfl) ?_
  intro p e s m args below meth c C0
  show J p l e _ s m args below meth c A 1 _ (CO D Y A tE ad (F 0) (F 1) (F 2) (G 0) (G 1) (G 2) (G 3) (G 4) (G 5) (G 6) (G 7) (G 8) (G 9) (G 10) (G 11) (G 12) (G 13) (G 14) (G 15) (G 16) (G 17) (G 18) (G 19) (N 0) (N 1) (N 2) (Q 0) (Q 1) sa ma) 0 0 0 [(0, .ref ((sa i)))] []
  refine c_fact (fun cel h => ci_f h) (fun hcf => ?_)
  obtain ⟨hn0, hn1, hn2, hq0, hq1⟩ := hcf
  refine j_aload_n C0 dX4_canMove_0 rfl ?_
  refine c_get C0 in_X4 (ci := 7) rfl (20 + 2 * i) (fun cel h => ci_s h i hi) 5 (by decide) wf_X4_9 (v := .int (((G 10) i))) rfl dX4_canMove_1 ?_
  refine j_if_eq C0 15 dX4_canMove_4 (by decide) (fun (q1 : ((G 10) i) = 0) => ?_) (fun (q1 : ¬ (((G 10) i) = 0)) => ?_)
  ·
    refine j_iconst C0 (v := 1) dX4_canMove_15 (by decide) ?_
    refine j_goto C0 20 dX4_canMove_16 (by decide) ?_
    exact j_zretE C0 rfl (by rw [vX4_canMove, if_pos q1]) (by decide) dX4_canMove_20 (fun H h => h)
  ·
    refine j_aload_n C0 dX4_canMove_7 rfl ?_
    refine c_get C0 in_X4 (ci := 7) rfl (20 + 2 * i) (fun cel h => ci_s h i hi) 5 (by decide) wf_X4_9 (v := .int (((G 10) i))) rfl dX4_canMove_8 ?_
    refine j_iconst C0 (v := 2) dX4_canMove_11 (by decide) ?_
    refine j_icmp_ne C0 19 dX4_canMove_12 (by decide) (fun (q2 : ¬ (((G 10) i) = (2 : Int32))) => ?_) (fun (q2 : ((G 10) i) = (2 : Int32)) => ?_)
    ·
      refine j_iconst C0 (v := 0) dX4_canMove_19 (by decide) ?_
      exact j_zretE C0 rfl (by rw [vX4_canMove, if_neg q1, if_neg q2]) (by decide) dX4_canMove_20 (fun H h => h)
    ·
      refine j_iconst C0 (v := 1) dX4_canMove_15 (by decide) ?_
      refine j_goto C0 20 dX4_canMove_16 (by decide) ?_
      exact j_zretE C0 rfl (by rw [vX4_canMove, if_neg q1, if_pos q2]) (by decide) dX4_canMove_20 (fun H h => h)
theorem z_X4_canMove : ∀ F G N Q i, vX4_canMove F G N Q i = 0 ∨ vX4_canMove F G N Q i = 1 := by
  intro F G N Q i
  unfold vX4_canMove
  repeat' split
  all_goals first | exact Or.inl rfl | exact Or.inr rfl
/-! ## HarborTides$Ship.hasOrder()Z -/
def vX4_hasOrder (F : Nat → Int32) (G : Nat → Nat → Int32) (N : Nat → Nat) (Q : Nat → Nat → Nat) (i : Nat) : Int32 := (if ((G 12) i) = (-1 : Int32) then (0 : Int32) else (1 : Int32))
set_option maxRecDepth 100000 in
set_option maxHeartbeats 4000000 in
theorem k_X4_hasOrder {l : Launch} (hsl : l.stackTraces = false) {D : va_G} {Y : Nat → ClassId} {A : Nat → Prop} {E : State → Prop} {tE : Nat} (ad : Nat → Nat) (F : Nat → Int32) (G : Nat → Nat → Int32) (N : Nat → Nat) (Q : Nat → Nat → Nat) (sa ma : Nat → Nat) (i : Nat) (hi : i < N 0)   : KM l yX4_hasOrder cX4_hasOrder 1 (some .boolean) D Y A E 0 0 0 0 [.ref ((sa i))] (CR D Y A tE ad F G N Q sa ma) (some (.int (vX4_hasOrder F G N Q i))) (CR D Y A tE ad F G N Q sa ma) := by
  refine KM_of RX4 [(0, .ref ((sa i)))] rfl (by decide) hsl (Nat.le_of_ble_eq_true rfl) rfl (lok_of rfl rfl) ?_
  intro p e s m args below meth c C0
  show J p l e _ s m args below meth c A 1 _ (CO D Y A tE ad (F 0) (F 1) (F 2) (G 0) (G 1) (G 2) (G 3) (G 4) (G 5) (G 6) (G 7) (G 8) (G 9) (G 10) (G 11) (G 12) (G 13) (G 14) (G 15) (G 16) (G 17) (G 18) (G 19) (N 0) (N 1) (N 2) (Q 0) (Q 1) sa ma) 0 0 0 [(0, .ref ((sa i)))] []
  refine c_fact (fun cel h => ci_f h) (fun hcf => ?_)
  obtain ⟨hn0, hn1, hn2, hq0, hq1⟩ := hcf
  refine j_aload_n C0 dX4_hasOrder_0 rfl ?_
  refine c_get C0 in_X4 (ci := 7) rfl (20 + 2 * i) (fun cel h => ci_s h i hi) 7 (by decide) wf_X4_18 (v := .int (((G 12) i))) rfl dX4_hasOrder_1 ?_
  refine j_iconst C0 (v := -1) dX4_hasOrder_4 (by decide) ?_
  refine j_icmp_eq C0 12 dX4_hasOrder_5 (by decide) (fun (q1 : ((G 12) i) = (-1 : Int32)) => ?_) (fun (q1 : ¬ (((G 12) i) = (-1 : Int32))) => ?_)
  ·
    refine j_iconst C0 (v := 0) dX4_hasOrder_12 (by decide) ?_
    exact j_zretE C0 rfl (by rw [vX4_hasOrder, if_pos q1]) (by decide) dX4_hasOrder_13 (fun H h => h)
  ·
    refine j_iconst C0 (v := 1) dX4_hasOrder_8 (by decide) ?_
    refine j_goto C0 13 dX4_hasOrder_9 (by decide) ?_
    exact j_zretE C0 rfl (by rw [vX4_hasOrder, if_neg q1]) (by decide) dX4_hasOrder_13 (fun H h => h)
/-! ## HarborTides$Ship.beginMove(IZ)V -/
def sX4_beginMove (F : Nat → Int32) (G : Nat → Nat → Int32) (N : Nat → Nat) (Q : Nat → Nat → Nat) (i : Nat) (a1 : Int32) (a2 : Int32) : (Nat → Int32) × (Nat → Int32) := (if a2 = 0 then ((upd (G 10) i (1 : Int32)), (upd (G 11) i a1)) else ((upd (G 10) i (3 : Int32)), (upd (G 11) i a1)))
set_option maxRecDepth 100000 in
set_option maxHeartbeats 4000000 in
theorem k_X4_beginMove {l : Launch} (hsl : l.stackTraces = false) {D : va_G} {Y : Nat → ClassId} {A : Nat → Prop} {E : State → Prop} {tE : Nat} (ad : Nat → Nat) (F : Nat → Int32) (G : Nat → Nat → Int32) (N : Nat → Nat) (Q : Nat → Nat → Nat) (sa ma : Nat → Nat) (i : Nat) (hi : i < N 0) (a1 : Int32) (a2 : Int32)   : KM l yX4_beginMove cX4_beginMove 3 none D Y A E 0 0 0 0 [.ref ((sa i)), .int (a1), .int (a2)] (CR D Y A tE ad F G N Q sa ma) none (CR D Y A tE ad F (hu (hu G 10 (sX4_beginMove F G N Q i a1 a2).1) 11 (sX4_beginMove F G N Q i a1 a2).2) N Q sa ma) := by
  refine KM_of RX4 [(0, .ref ((sa i))), (1, .int (a1)), (2, .int (a2))] rfl (by decide) hsl (Nat.le_of_ble_eq_true rfl) rfl (lok_of rfl rfl) ?_
  intro p e s m args below meth c C0
  show J p l e _ s m args below meth c A 3 _ (CO D Y A tE ad (F 0) (F 1) (F 2) (G 0) (G 1) (G 2) (G 3) (G 4) (G 5) (G 6) (G 7) (G 8) (G 9) (G 10) (G 11) (G 12) (G 13) (G 14) (G 15) (G 16) (G 17) (G 18) (G 19) (N 0) (N 1) (N 2) (Q 0) (Q 1) sa ma) 0 0 0 [(0, .ref ((sa i))), (1, .int (a1)), (2, .int (a2))] []
  refine c_fact (fun cel h => ci_f h) (fun hcf => ?_)
  obtain ⟨hn0, hn1, hn2, hq0, hq1⟩ := hcf
  refine j_aload_n C0 dX4_beginMove_0 rfl ?_
  refine j_iload_n C0 dX4_beginMove_1 rfl ?_
  refine j_if_eq C0 9 dX4_beginMove_2 (by decide) (fun (q1 : a2 = 0) => ?_) (fun (q1 : ¬ (a2 = 0)) => ?_)
  ·
    refine j_iconst C0 (v := 1) dX4_beginMove_9 (by decide) ?_
    refine c_put C0 in_X4 tyX4 tyX4_ok nmX4 (ci := 7) (P := (CIV Y tE ad (F 0) (F 1) (F 2) (G 0) (G 1) (G 2) (G 3) (G 4) (G 5) (G 6) (G 7) (G 8) (G 9) (G 10) (G 11) (G 12) (G 13) (G 14) (G 15) (G 16) (G 17) (G 18) (G 19) (N 0) (N 1) (N 2) (Q 0) (Q 1) sa ma)) (P' := (CIV Y tE ad (F 0) (F 1) (F 2) (G 0) (G 1) (G 2) (G 3) (G 4) (G 5) (G 6) (G 7) (G 8) (G 9) (upd (G 10) i (1 : Int32)) (G 11) (G 12) (G 13) (G 14) (G 15) (G 16) (G 17) (G 18) (G 19) (N 0) (N 1) (N 2) (Q 0) (Q 1) sa ma)) rfl (20 + 2 * i) (fun cel h => ci_s h i hi) 5 (by decide) wf_X4_9 rfl (tyX4_ok 5 (by decide)) rfl rfl (show 5 < 11 from by decide) dX4_beginMove_10 (fun cel h => cs_5 _ h hi) ?_
    refine j_aload_n C0 dX4_beginMove_13 rfl ?_
    refine j_iload_n C0 dX4_beginMove_14 rfl ?_
    refine c_put C0 in_X4 tyX4 tyX4_ok nmX4 (ci := 7) (P := (CIV Y tE ad (F 0) (F 1) (F 2) (G 0) (G 1) (G 2) (G 3) (G 4) (G 5) (G 6) (G 7) (G 8) (G 9) (upd (G 10) i (1 : Int32)) (G 11) (G 12) (G 13) (G 14) (G 15) (G 16) (G 17) (G 18) (G 19) (N 0) (N 1) (N 2) (Q 0) (Q 1) sa ma)) (P' := (CIV Y tE ad (F 0) (F 1) (F 2) (G 0) (G 1) (G 2) (G 3) (G 4) (G 5) (G 6) (G 7) (G 8) (G 9) (upd (G 10) i (1 : Int32)) (upd (G 11) i a1) (G 12) (G 13) (G 14) (G 15) (G 16) (G 17) (G 18) (G 19) (N 0) (N 1) (N 2) (Q 0) (Q 1) sa ma)) rfl (20 + 2 * i) (fun cel h => ci_s h i hi) 6 (by decide) wf_X4_15 rfl (tyX4_ok 6 (by decide)) rfl rfl (show 6 < 11 from by decide) dX4_beginMove_15 (fun cel h => cs_6 _ h hi) ?_
    exact j_vret C0 rfl dX4_beginMove_18 (fun H h => by rw [sX4_beginMove, if_pos q1]; exact h)
  ·
    refine j_iconst C0 (v := 3) dX4_beginMove_5 (by decide) ?_
    refine j_goto C0 10 dX4_beginMove_6 (by decide) ?_
    refine c_put C0 in_X4 tyX4 tyX4_ok nmX4 (ci := 7) (P := (CIV Y tE ad (F 0) (F 1) (F 2) (G 0) (G 1) (G 2) (G 3) (G 4) (G 5) (G 6) (G 7) (G 8) (G 9) (G 10) (G 11) (G 12) (G 13) (G 14) (G 15) (G 16) (G 17) (G 18) (G 19) (N 0) (N 1) (N 2) (Q 0) (Q 1) sa ma)) (P' := (CIV Y tE ad (F 0) (F 1) (F 2) (G 0) (G 1) (G 2) (G 3) (G 4) (G 5) (G 6) (G 7) (G 8) (G 9) (upd (G 10) i (3 : Int32)) (G 11) (G 12) (G 13) (G 14) (G 15) (G 16) (G 17) (G 18) (G 19) (N 0) (N 1) (N 2) (Q 0) (Q 1) sa ma)) rfl (20 + 2 * i) (fun cel h => ci_s h i hi) 5 (by decide) wf_X4_9 rfl (tyX4_ok 5 (by decide)) rfl rfl (show 5 < 11 from by decide) dX4_beginMove_10 (fun cel h => cs_5 _ h hi) ?_
    refine j_aload_n C0 dX4_beginMove_13 rfl ?_
    refine j_iload_n C0 dX4_beginMove_14 rfl ?_
    refine c_put C0 in_X4 tyX4 tyX4_ok nmX4 (ci := 7) (P := (CIV Y tE ad (F 0) (F 1) (F 2) (G 0) (G 1) (G 2) (G 3) (G 4) (G 5) (G 6) (G 7) (G 8) (G 9) (upd (G 10) i (3 : Int32)) (G 11) (G 12) (G 13) (G 14) (G 15) (G 16) (G 17) (G 18) (G 19) (N 0) (N 1) (N 2) (Q 0) (Q 1) sa ma)) (P' := (CIV Y tE ad (F 0) (F 1) (F 2) (G 0) (G 1) (G 2) (G 3) (G 4) (G 5) (G 6) (G 7) (G 8) (G 9) (upd (G 10) i (3 : Int32)) (upd (G 11) i a1) (G 12) (G 13) (G 14) (G 15) (G 16) (G 17) (G 18) (G 19) (N 0) (N 1) (N 2) (Q 0) (Q 1) sa ma)) rfl (20 + 2 * i) (fun cel h => ci_s h i hi) 6 (by decide) wf_X4_15 rfl (tyX4_ok 6 (by decide)) rfl rfl (show 6 < 11 from by decide) dX4_beginMove_15 (fun cel h => cs_6 _ h hi) ?_
    exact j_vret C0 rfl dX4_beginMove_18 (fun H h => by rw [sX4_beginMove, if_neg q1]; exact h)
/-! ## HarborTides$Ship.endMove(I)V -/
def sX4_endMove (F : Nat → Int32) (G : Nat → Nat → Int32) (N : Nat → Nat) (Q : Nat → Nat → Nat) (i : Nat) (a1 : Int32) : (Nat → Int32) := (if (vX4_canMove F G N Q (i)) = 0 then (if ((G 10) i) = (4 : Int32) then ((G 10)) else (if (2 : Int32) ≤ (a1 - ((G 11) i)) then (if ((G 10) i) = (1 : Int32) then ((upd (G 10) i (2 : Int32))) else ((upd (G 10) i (4 : Int32)))) else ((G 10)))) else ((G 10)))
set_option maxRecDepth 100000 in
set_option maxHeartbeats 4000000 in
theorem k_X4_endMove {l : Launch} (hsl : l.stackTraces = false) {D : va_G} {Y : Nat → ClassId} {A : Nat → Prop} {E : State → Prop} {tE : Nat} (ad : Nat → Nat) (F : Nat → Int32) (G : Nat → Nat → Int32) (N : Nat → Nat) (Q : Nat → Nat → Nat) (sa ma : Nat → Nat) (i : Nat) (hi : i < N 0) (a1 : Int32)   : KM l yX4_endMove cX4_endMove 2 none D Y A E 1 20 0 0 [.ref ((sa i)), .int (a1)] (CR D Y A tE ad F G N Q sa ma) none (CR D Y A tE ad F (hu G 10 (sX4_endMove F G N Q i a1)) N Q sa ma) := by
  refine KM_of RX4 [(0, .ref ((sa i))), (1, .int (a1))] rfl (by decide) hsl (Nat.le_of_ble_eq_true rfl) rfl (lok_of rfl rfl) ?_
  intro p e s m args below meth c C0
  show J p l e _ s m args below meth c A 2 _ (CO D Y A tE ad (F 0) (F 1) (F 2) (G 0) (G 1) (G 2) (G 3) (G 4) (G 5) (G 6) (G 7) (G 8) (G 9) (G 10) (G 11) (G 12) (G 13) (G 14) (G 15) (G 16) (G 17) (G 18) (G 19) (N 0) (N 1) (N 2) (Q 0) (Q 1) sa ma) 0 0 0 [(0, .ref ((sa i))), (1, .int (a1))] []
  refine c_fact (fun cel h => ci_f h) (fun hcf => ?_)
  obtain ⟨hn0, hn1, hn2, hq0, hq1⟩ := hcf
  refine j_aload_n C0 dX4_endMove_0 rfl ?_
  refine j_callVv C0 (k_X4_canMove hsl ad F G N Q sa ma (i) hi   ) mv_X4_canMove wm_X4_45 (c_recv C0 (ci := 7) rfl (20 + 2 * i) (fun cel h => ⟨_, ci_s h i hi⟩)) rfl rfl ⟨Nat.le_of_ble_eq_true rfl, Nat.le_of_ble_eq_true rfl⟩ (Nat.le_of_ble_eq_true rfl) ⟨Nat.le_refl _, Nat.le_refl _⟩ dX4_endMove_1 ?_
  show J p l e _ s m args below meth c A 2 _ (CO D Y A tE ad (F 0) (F 1) (F 2) (G 0) (G 1) (G 2) (G 3) (G 4) (G 5) (G 6) (G 7) (G 8) (G 9) (G 10) (G 11) (G 12) (G 13) (G 14) (G 15) (G 16) (G 17) (G 18) (G 19) (N 0) (N 1) (N 2) (Q 0) (Q 1) sa ma) 0 0 4 [(0, .ref ((sa i))), (1, .int (a1))] [.int ((vX4_canMove F G N Q (i)))]
  refine j_if_ne C0 25 dX4_endMove_4 (by decide) (fun (q1 : ¬ ((vX4_canMove F G N Q (i)) = 0)) => ?_) (fun (q1 : (vX4_canMove F G N Q (i)) = 0) => ?_)
  ·
    exact j_vret C0 rfl dX4_endMove_25 (fun H h => by rw [sX4_endMove, if_neg q1]; exact h)
  ·
    refine j_aload_n C0 dX4_endMove_7 rfl ?_
    refine c_get C0 in_X4 (ci := 7) rfl (20 + 2 * i) (fun cel h => ci_s h i hi) 5 (by decide) wf_X4_9 (v := .int (((G 10) i))) rfl dX4_endMove_8 ?_
    refine j_iconst C0 (v := 4) dX4_endMove_11 (by decide) ?_
    refine j_icmp_eq C0 25 dX4_endMove_12 (by decide) (fun (q2 : ((G 10) i) = (4 : Int32)) => ?_) (fun (q2 : ¬ (((G 10) i) = (4 : Int32))) => ?_)
    ·
      exact j_vret C0 rfl dX4_endMove_25 (fun H h => by rw [sX4_endMove, if_pos q1, if_pos q2]; exact h)
    ·
      refine j_iload_n C0 dX4_endMove_15 rfl ?_
      refine j_aload_n C0 dX4_endMove_16 rfl ?_
      refine c_get C0 in_X4 (ci := 7) rfl (20 + 2 * i) (fun cel h => ci_s h i hi) 6 (by decide) wf_X4_15 (v := .int (((G 11) i))) rfl dX4_endMove_17 ?_
      refine j_isub C0 dX4_endMove_20 ?_
      refine j_iconst C0 (v := 2) dX4_endMove_21 (by decide) ?_
      refine j_icmp_ge C0 26 dX4_endMove_22 (by decide) (fun (q3 : (2 : Int32) ≤ (a1 - ((G 11) i))) => ?_) (fun (q3 : ¬ ((2 : Int32) ≤ (a1 - ((G 11) i)))) => ?_)
      ·
        refine j_aload_n C0 dX4_endMove_26 rfl ?_
        refine j_aload_n C0 dX4_endMove_27 rfl ?_
        refine c_get C0 in_X4 (ci := 7) rfl (20 + 2 * i) (fun cel h => ci_s h i hi) 5 (by decide) wf_X4_9 (v := .int (((G 10) i))) rfl dX4_endMove_28 ?_
        refine j_iconst C0 (v := 1) dX4_endMove_31 (by decide) ?_
        refine j_icmp_ne C0 39 dX4_endMove_32 (by decide) (fun (q4 : ¬ (((G 10) i) = (1 : Int32))) => ?_) (fun (q4 : ((G 10) i) = (1 : Int32)) => ?_)
        ·
          refine j_iconst C0 (v := 4) dX4_endMove_39 (by decide) ?_
          refine c_put C0 in_X4 tyX4 tyX4_ok nmX4 (ci := 7) (P := (CIV Y tE ad (F 0) (F 1) (F 2) (G 0) (G 1) (G 2) (G 3) (G 4) (G 5) (G 6) (G 7) (G 8) (G 9) (G 10) (G 11) (G 12) (G 13) (G 14) (G 15) (G 16) (G 17) (G 18) (G 19) (N 0) (N 1) (N 2) (Q 0) (Q 1) sa ma)) (P' := (CIV Y tE ad (F 0) (F 1) (F 2) (G 0) (G 1) (G 2) (G 3) (G 4) (G 5) (G 6) (G 7) (G 8) (G 9) (upd (G 10) i (4 : Int32)) (G 11) (G 12) (G 13) (G 14) (G 15) (G 16) (G 17) (G 18) (G 19) (N 0) (N 1) (N 2) (Q 0) (Q 1) sa ma)) rfl (20 + 2 * i) (fun cel h => ci_s h i hi) 5 (by decide) wf_X4_9 rfl (tyX4_ok 5 (by decide)) rfl rfl (show 5 < 11 from by decide) dX4_endMove_40 (fun cel h => cs_5 _ h hi) ?_
          exact j_vret C0 rfl dX4_endMove_43 (fun H h => by rw [sX4_endMove, if_pos q1, if_neg q2, if_pos q3, if_neg q4]; exact h)
        ·
          refine j_iconst C0 (v := 2) dX4_endMove_35 (by decide) ?_
          refine j_goto C0 40 dX4_endMove_36 (by decide) ?_
          refine c_put C0 in_X4 tyX4 tyX4_ok nmX4 (ci := 7) (P := (CIV Y tE ad (F 0) (F 1) (F 2) (G 0) (G 1) (G 2) (G 3) (G 4) (G 5) (G 6) (G 7) (G 8) (G 9) (G 10) (G 11) (G 12) (G 13) (G 14) (G 15) (G 16) (G 17) (G 18) (G 19) (N 0) (N 1) (N 2) (Q 0) (Q 1) sa ma)) (P' := (CIV Y tE ad (F 0) (F 1) (F 2) (G 0) (G 1) (G 2) (G 3) (G 4) (G 5) (G 6) (G 7) (G 8) (G 9) (upd (G 10) i (2 : Int32)) (G 11) (G 12) (G 13) (G 14) (G 15) (G 16) (G 17) (G 18) (G 19) (N 0) (N 1) (N 2) (Q 0) (Q 1) sa ma)) rfl (20 + 2 * i) (fun cel h => ci_s h i hi) 5 (by decide) wf_X4_9 rfl (tyX4_ok 5 (by decide)) rfl rfl (show 5 < 11 from by decide) dX4_endMove_40 (fun cel h => cs_5 _ h hi) ?_
          exact j_vret C0 rfl dX4_endMove_43 (fun H h => by rw [sX4_endMove, if_pos q1, if_neg q2, if_pos q3, if_pos q4]; exact h)
      ·
        exact j_vret C0 rfl dX4_endMove_25 (fun H h => by rw [sX4_endMove, if_pos q1, if_neg q2, if_neg q3]; exact h)
/-! ## HarborTides$Ship.isAheadOf(LHarborTides$Ship;)Z -/
def vX4_isAheadOf (F : Nat → Int32) (G : Nat → Nat → Int32) (N : Nat → Nat) (Q : Nat → Nat → Nat) (i : Nat) (i2 : Nat) : Int32 := (if ((G 8) i) = ((G 8) i2) then (if ((G 12) i) = ((G 12) i2) then (if ((G 5) i2) ≤ ((G 5) i) then (0 : Int32) else (1 : Int32)) else (if ((G 12) i2) ≤ ((G 12) i) then (0 : Int32) else (1 : Int32))) else (if ((G 8) i) ≤ ((G 8) i2) then (0 : Int32) else (1 : Int32)))
set_option maxRecDepth 100000 in
set_option maxHeartbeats 4000000 in
theorem k_X4_isAheadOf {l : Launch} (hsl : l.stackTraces = false) {D : va_G} {Y : Nat → ClassId} {A : Nat → Prop} {E : State → Prop} {tE : Nat} (ad : Nat → Nat) (F : Nat → Int32) (G : Nat → Nat → Int32) (N : Nat → Nat) (Q : Nat → Nat → Nat) (sa ma : Nat → Nat) (i : Nat) (hi : i < N 0) (i2 : Nat) (hi2 : i2 < N 0)  : KM l yX4_isAheadOf cX4_isAheadOf 2 (some .boolean) D Y A E 0 0 0 0 [.ref ((sa i)), .ref ((sa i2))] (CR D Y A tE ad F G N Q sa ma) (some (.int (vX4_isAheadOf F G N Q i i2))) (CR D Y A tE ad F G N Q sa ma) := by
  refine KM_of RX4 [(0, .ref ((sa i))), (1, .ref ((sa i2)))] rfl (by decide) hsl (Nat.le_of_ble_eq_true rfl) rfl (lok_of rfl rfl) ?_
  intro p e s m args below meth c C0
  show J p l e _ s m args below meth c A 2 _ (CO D Y A tE ad (F 0) (F 1) (F 2) (G 0) (G 1) (G 2) (G 3) (G 4) (G 5) (G 6) (G 7) (G 8) (G 9) (G 10) (G 11) (G 12) (G 13) (G 14) (G 15) (G 16) (G 17) (G 18) (G 19) (N 0) (N 1) (N 2) (Q 0) (Q 1) sa ma) 0 0 0 [(0, .ref ((sa i))), (1, .ref ((sa i2)))] []
  refine c_fact (fun cel h => ci_f h) (fun hcf => ?_)
  obtain ⟨hn0, hn1, hn2, hq0, hq1⟩ := hcf
  refine j_aload_n C0 dX4_isAheadOf_0 rfl ?_
  refine c_get C0 in_X4 (ci := 7) rfl (20 + 2 * i) (fun cel h => ci_s h i hi) 3 (by decide) wf_X4_39 (v := .int (((G 8) i))) rfl dX4_isAheadOf_1 ?_
  refine j_aload_n C0 dX4_isAheadOf_4 rfl ?_
  refine c_get C0 in_X4 (ci := 7) rfl (20 + 2 * i2) (fun cel h => ci_s h i2 hi2) 3 (by decide) wf_X4_39 (v := .int (((G 8) i2))) rfl dX4_isAheadOf_5 ?_
  refine j_icmp_eq C0 28 dX4_isAheadOf_8 (by decide) (fun (q1 : ((G 8) i) = ((G 8) i2)) => ?_) (fun (q1 : ¬ (((G 8) i) = ((G 8) i2))) => ?_)
  ·
    refine j_aload_n C0 dX4_isAheadOf_28 rfl ?_
    refine c_get C0 in_X4 (ci := 7) rfl (20 + 2 * i) (fun cel h => ci_s h i hi) 7 (by decide) wf_X4_18 (v := .int (((G 12) i))) rfl dX4_isAheadOf_29 ?_
    refine j_aload_n C0 dX4_isAheadOf_32 rfl ?_
    refine c_get C0 in_X4 (ci := 7) rfl (20 + 2 * i2) (fun cel h => ci_s h i2 hi2) 7 (by decide) wf_X4_18 (v := .int (((G 12) i2))) rfl dX4_isAheadOf_33 ?_
    refine j_icmp_eq C0 56 dX4_isAheadOf_36 (by decide) (fun (q2 : ((G 12) i) = ((G 12) i2)) => ?_) (fun (q2 : ¬ (((G 12) i) = ((G 12) i2))) => ?_)
    ·
      refine j_aload_n C0 dX4_isAheadOf_56 rfl ?_
      refine c_get C0 in_X4 (ci := 7) rfl (20 + 2 * i) (fun cel h => ci_s h i hi) 0 (by decide) wf_X4_30 (v := .int (((G 5) i))) rfl dX4_isAheadOf_57 ?_
      refine j_aload_n C0 dX4_isAheadOf_60 rfl ?_
      refine c_get C0 in_X4 (ci := 7) rfl (20 + 2 * i2) (fun cel h => ci_s h i2 hi2) 0 (by decide) wf_X4_30 (v := .int (((G 5) i2))) rfl dX4_isAheadOf_61 ?_
      refine j_icmp_ge C0 71 dX4_isAheadOf_64 (by decide) (fun (q3 : ((G 5) i2) ≤ ((G 5) i)) => ?_) (fun (q3 : ¬ (((G 5) i2) ≤ ((G 5) i))) => ?_)
      ·
        refine j_iconst C0 (v := 0) dX4_isAheadOf_71 (by decide) ?_
        exact j_zretE C0 rfl (by rw [vX4_isAheadOf, if_pos q1, if_pos q2, if_pos q3]) (by decide) dX4_isAheadOf_72 (fun H h => h)
      ·
        refine j_iconst C0 (v := 1) dX4_isAheadOf_67 (by decide) ?_
        refine j_goto C0 72 dX4_isAheadOf_68 (by decide) ?_
        exact j_zretE C0 rfl (by rw [vX4_isAheadOf, if_pos q1, if_pos q2, if_neg q3]) (by decide) dX4_isAheadOf_72 (fun H h => h)
    ·
      refine j_aload_n C0 dX4_isAheadOf_39 rfl ?_
      refine c_get C0 in_X4 (ci := 7) rfl (20 + 2 * i) (fun cel h => ci_s h i hi) 7 (by decide) wf_X4_18 (v := .int (((G 12) i))) rfl dX4_isAheadOf_40 ?_
      refine j_aload_n C0 dX4_isAheadOf_43 rfl ?_
      refine c_get C0 in_X4 (ci := 7) rfl (20 + 2 * i2) (fun cel h => ci_s h i2 hi2) 7 (by decide) wf_X4_18 (v := .int (((G 12) i2))) rfl dX4_isAheadOf_44 ?_
      refine j_icmp_ge C0 54 dX4_isAheadOf_47 (by decide) (fun (q4 : ((G 12) i2) ≤ ((G 12) i)) => ?_) (fun (q4 : ¬ (((G 12) i2) ≤ ((G 12) i))) => ?_)
      ·
        refine j_iconst C0 (v := 0) dX4_isAheadOf_54 (by decide) ?_
        exact j_zretE C0 rfl (by rw [vX4_isAheadOf, if_pos q1, if_neg q2, if_pos q4]) (by decide) dX4_isAheadOf_55 (fun H h => h)
      ·
        refine j_iconst C0 (v := 1) dX4_isAheadOf_50 (by decide) ?_
        refine j_goto C0 55 dX4_isAheadOf_51 (by decide) ?_
        exact j_zretE C0 rfl (by rw [vX4_isAheadOf, if_pos q1, if_neg q2, if_neg q4]) (by decide) dX4_isAheadOf_55 (fun H h => h)
  ·
    refine j_aload_n C0 dX4_isAheadOf_11 rfl ?_
    refine c_get C0 in_X4 (ci := 7) rfl (20 + 2 * i) (fun cel h => ci_s h i hi) 3 (by decide) wf_X4_39 (v := .int (((G 8) i))) rfl dX4_isAheadOf_12 ?_
    refine j_aload_n C0 dX4_isAheadOf_15 rfl ?_
    refine c_get C0 in_X4 (ci := 7) rfl (20 + 2 * i2) (fun cel h => ci_s h i2 hi2) 3 (by decide) wf_X4_39 (v := .int (((G 8) i2))) rfl dX4_isAheadOf_16 ?_
    refine j_icmp_le C0 26 dX4_isAheadOf_19 (by decide) (fun (q5 : ((G 8) i) ≤ ((G 8) i2)) => ?_) (fun (q5 : ¬ (((G 8) i) ≤ ((G 8) i2))) => ?_)
    ·
      refine j_iconst C0 (v := 0) dX4_isAheadOf_26 (by decide) ?_
      exact j_zretE C0 rfl (by rw [vX4_isAheadOf, if_neg q1, if_pos q5]) (by decide) dX4_isAheadOf_27 (fun H h => h)
    ·
      refine j_iconst C0 (v := 1) dX4_isAheadOf_22 (by decide) ?_
      refine j_goto C0 27 dX4_isAheadOf_23 (by decide) ?_
      exact j_zretE C0 rfl (by rw [vX4_isAheadOf, if_neg q1, if_neg q5]) (by decide) dX4_isAheadOf_27 (fun H h => h)
theorem z_X4_isAheadOf : ∀ F G N Q i i2, vX4_isAheadOf F G N Q i i2 = 0 ∨ vX4_isAheadOf F G N Q i i2 = 1 := by
  intro F G N Q i i2
  unfold vX4_isAheadOf
  repeat' split
  all_goals first | exact Or.inl rfl | exact Or.inr rfl
/-! ## HarborTides$Water.depthAt(I)I -/
def vX5_depthAt (F : Nat → Int32) (G : Nat → Nat → Int32) (N : Nat → Nat) (Q : Nat → Nat → Nat) (a1 : Int32) : Int32 := (((G 0) ((a1 - a1 / (12 : Int32) * (12 : Int32))).toNatClampNeg) + ((G 1) (a1).toNatClampNeg))
set_option maxRecDepth 100000 in
set_option maxHeartbeats 4000000 in
theorem k_X5_depthAt {l : Launch} (hsl : l.stackTraces = false) {D : va_G} {Y : Nat → ClassId} {A : Nat → Prop} {E : State → Prop} {tE : Nat} (ad : Nat → Nat) (F : Nat → Int32) (G : Nat → Nat → Int32) (N : Nat → Nat) (Q : Nat → Nat → Nat) (sa ma : Nat → Nat) (a1 : Int32)  (hh : vp_in a1 3101) : KM l yX5_depthAt cX5_depthAt 2 (some .int) D Y A E 0 0 0 0 [.ref (ad 1), .int (a1)] (CR D Y A tE ad F G N Q sa ma) (some (.int (vX5_depthAt F G N Q a1))) (CR D Y A tE ad F G N Q sa ma) := by
  refine KM_of RX5 [(0, .ref (ad 1)), (1, .int (a1))] rfl (by decide) hsl (Nat.le_of_ble_eq_true rfl) rfl (lok_of rfl rfl) ?_
  intro p e s m args below meth c C0
  show J p l e _ s m args below meth c A 2 _ (CO D Y A tE ad (F 0) (F 1) (F 2) (G 0) (G 1) (G 2) (G 3) (G 4) (G 5) (G 6) (G 7) (G 8) (G 9) (G 10) (G 11) (G 12) (G 13) (G 14) (G 15) (G 16) (G 17) (G 18) (G 19) (N 0) (N 1) (N 2) (Q 0) (Q 1) sa ma) 0 0 0 [(0, .ref (ad 1)), (1, .int (a1))] []
  refine c_fact (fun cel h => ci_f h) (fun hcf => ?_)
  obtain ⟨hn0, hn1, hn2, hq0, hq1⟩ := hcf
  refine j_aload_n C0 dX5_depthAt_0 rfl ?_
  refine c_get C0 in_X5 (ci := 8) rfl 1 (fun cel h => ci_1 h) 0 (by decide) wf_X5_9 rfl dX5_depthAt_1 ?_
  refine j_iload_n C0 dX5_depthAt_4 rfl ?_
  refine j_bipush C0 (v := 12) dX5_depthAt_5 (by decide) ?_
  refine j_irem C0 dX5_depthAt_7 (by decide) ?_
  refine c_iald C0 6 (fun cel h => ci_6 h) (v := ((G 0) ((a1 - a1 / (12 : Int32) * (12 : Int32))).toNatClampNeg)) (vp_rem12 hh (by decide)) dX5_depthAt_8 rfl ?_
  refine j_aload_n C0 dX5_depthAt_9 rfl ?_
  refine c_get C0 in_X5 (ci := 8) rfl 1 (fun cel h => ci_1 h) 1 (by decide) wf_X5_15 rfl dX5_depthAt_10 ?_
  refine j_iload_n C0 dX5_depthAt_13 rfl ?_
  refine c_iald C0 7 (fun cel h => ci_7 h) (v := ((G 1) (a1).toNatClampNeg)) hh dX5_depthAt_14 rfl ?_
  refine j_iadd C0 dX5_depthAt_15 ?_
  exact j_iretE C0 rfl (by rw [vX5_depthAt]) dX5_depthAt_16 (fun H h => h)
/-! ## HarborTides$Water.carries(LHarborTides$Ship;ZI)Z -/
def vX5_carries (F : Nat → Int32) (G : Nat → Nat → Int32) (N : Nat → Nat) (Q : Nat → Nat → Nat) (i2 : Nat) (a2 : Int32) (a3 : Int32) : Int32 := (if a2 = 0 then (if ((vX5_depthAt F G N Q (a3)) + (30 : Int32)) < (((G 7) i2) + (5 : Int32)) then (0 : Int32) else (if ((vX5_depthAt F G N Q ((a3 + (1 : Int32)))) + ((G 2) (((G 9) i2)).toNatClampNeg)) < (((G 7) i2) + (5 : Int32)) then (0 : Int32) else (1 : Int32))) else (if ((vX5_depthAt F G N Q ((a3 + (1 : Int32)))) + (30 : Int32)) < (((G 7) i2) + (5 : Int32)) then (0 : Int32) else (if ((vX5_depthAt F G N Q (a3)) + ((G 2) (((G 9) i2)).toNatClampNeg)) < (((G 7) i2) + (5 : Int32)) then (0 : Int32) else (1 : Int32))))
set_option maxRecDepth 100000 in
set_option maxHeartbeats 4000000 in
theorem k_X5_carries {l : Launch} (hsl : l.stackTraces = false) {D : va_G} {Y : Nat → ClassId} {A : Nat → Prop} {E : State → Prop} {tE : Nat} (ad : Nat → Nat) (F : Nat → Int32) (G : Nat → Nat → Int32) (N : Nat → Nat) (Q : Nat → Nat → Nat) (sa ma : Nat → Nat) (i2 : Nat) (a2 : Int32) (a3 : Int32) (hi2 : i2 < N 0) (hb : ∀ i, i < N 0 → vp_in (G 9 i) 6) (h3 : vp_in a3 3101) (h4 : vp_in (a3 + 1) 3101) : KM l yX5_carries cX5_carries 7 (some .boolean) D Y A E 1 21 0 0 [.ref (ad 1), .ref ((sa i2)), .int (a2), .int (a3)] (CR D Y A tE ad F G N Q sa ma) (some (.int (vX5_carries F G N Q i2 a2 a3))) (CR D Y A tE ad F G N Q sa ma) := by
  refine KM_of RX5 [(0, .ref (ad 1)), (1, .ref ((sa i2))), (2, .int (a2)), (3, .int (a3))] rfl (by decide) hsl (Nat.le_of_ble_eq_true rfl) rfl (lok_of rfl rfl) ?_
  intro p e s m args below meth c C0
  show J p l e _ s m args below meth c A 7 _ (CO D Y A tE ad (F 0) (F 1) (F 2) (G 0) (G 1) (G 2) (G 3) (G 4) (G 5) (G 6) (G 7) (G 8) (G 9) (G 10) (G 11) (G 12) (G 13) (G 14) (G 15) (G 16) (G 17) (G 18) (G 19) (N 0) (N 1) (N 2) (Q 0) (Q 1) sa ma) 0 0 0 [(0, .ref (ad 1)), (1, .ref ((sa i2))), (2, .int (a2)), (3, .int (a3))] []
  refine c_fact (fun cel h => ci_f h) (fun hcf => ?_)
  obtain ⟨hn0, hn1, hn2, hq0, hq1⟩ := hcf
  refine j_aload_n C0 dX5_carries_0 rfl ?_
  refine c_get C0 in_X4 (ci := 7) rfl (20 + 2 * i2) (fun cel h => ci_s h i2 hi2) 2 (by decide) wf_X5_33 (v := .int (((G 7) i2))) rfl dX5_carries_1 ?_
  refine j_iconst C0 (v := 5) dX5_carries_4 (by decide) ?_
  refine j_iadd C0 dX5_carries_5 ?_
  refine j_istore C0 (L' := [(0, .ref (ad 1)), (1, .ref ((sa i2))), (2, .int (a2)), (3, .int (a3)), (4, .int ((((G 7) i2) + (5 : Int32))))]) dX5_carries_6 (by decide) rfl ?_
  refine j_aload_n C0 dX5_carries_8 rfl ?_
  refine j_iload_n C0 dX5_carries_9 rfl ?_
  refine j_if_eq C0 19 dX5_carries_10 (by decide) (fun (q1 : a2 = 0) => ?_) (fun (q1 : ¬ (a2 = 0)) => ?_)
  ·
    refine j_iload_n C0 dX5_carries_19 rfl ?_
    refine j_callVv C0 (k_X5_depthAt hsl ad F G N Q sa ma  (a3)  h3) mv_X5_depthAt wm_X5_39 (c_recv C0 (ci := 8) rfl 1 (fun cel h => ⟨_, ci_1 h⟩)) rfl rfl ⟨Nat.le_of_ble_eq_true rfl, Nat.le_of_ble_eq_true rfl⟩ (Nat.le_of_ble_eq_true rfl) ⟨Nat.le_refl _, Nat.le_refl _⟩ dX5_carries_20 ?_
    show J p l e _ s m args below meth c A 7 _ (CO D Y A tE ad (F 0) (F 1) (F 2) (G 0) (G 1) (G 2) (G 3) (G 4) (G 5) (G 6) (G 7) (G 8) (G 9) (G 10) (G 11) (G 12) (G 13) (G 14) (G 15) (G 16) (G 17) (G 18) (G 19) (N 0) (N 1) (N 2) (Q 0) (Q 1) sa ma) 0 0 23 [(0, .ref (ad 1)), (1, .ref ((sa i2))), (2, .int (a2)), (3, .int (a3)), (4, .int ((((G 7) i2) + (5 : Int32))))] [.int ((vX5_depthAt F G N Q (a3)))]
    refine j_bipush C0 (v := 30) dX5_carries_23 (by decide) ?_
    refine j_iadd C0 dX5_carries_25 ?_
    refine j_istore C0 (L' := [(0, .ref (ad 1)), (1, .ref ((sa i2))), (2, .int (a2)), (3, .int (a3)), (4, .int ((((G 7) i2) + (5 : Int32)))), (5, .int (((vX5_depthAt F G N Q (a3)) + (30 : Int32))))]) dX5_carries_26 (by decide) rfl ?_
    refine j_aload_n C0 dX5_carries_28 rfl ?_
    refine j_iload_n C0 dX5_carries_29 rfl ?_
    refine j_if_eq C0 37 dX5_carries_30 (by decide) (fun _ => ?_) (fun z => absurd q1 z)
    refine j_iload_n C0 dX5_carries_37 rfl ?_
    refine j_iconst C0 (v := 1) dX5_carries_38 (by decide) ?_
    refine j_iadd C0 dX5_carries_39 ?_
    refine j_callVv C0 (k_X5_depthAt hsl ad F G N Q sa ma  ((a3 + (1 : Int32)))  h4) mv_X5_depthAt wm_X5_39 (c_recv C0 (ci := 8) rfl 1 (fun cel h => ⟨_, ci_1 h⟩)) rfl rfl ⟨Nat.le_of_ble_eq_true rfl, Nat.le_of_ble_eq_true rfl⟩ (Nat.le_of_ble_eq_true rfl) ⟨Nat.le_refl _, Nat.le_refl _⟩ dX5_carries_40 ?_
    show J p l e _ s m args below meth c A 7 _ (CO D Y A tE ad (F 0) (F 1) (F 2) (G 0) (G 1) (G 2) (G 3) (G 4) (G 5) (G 6) (G 7) (G 8) (G 9) (G 10) (G 11) (G 12) (G 13) (G 14) (G 15) (G 16) (G 17) (G 18) (G 19) (N 0) (N 1) (N 2) (Q 0) (Q 1) sa ma) 0 0 43 [(0, .ref (ad 1)), (1, .ref ((sa i2))), (2, .int (a2)), (3, .int (a3)), (4, .int ((((G 7) i2) + (5 : Int32)))), (5, .int (((vX5_depthAt F G N Q (a3)) + (30 : Int32))))] [.int ((vX5_depthAt F G N Q ((a3 + (1 : Int32)))))]
    refine j_aload_n C0 dX5_carries_43 rfl ?_
    refine c_get C0 in_X5 (ci := 8) rfl 1 (fun cel h => ci_1 h) 2 (by decide) wf_X5_18 rfl dX5_carries_44 ?_
    refine j_aload_n C0 dX5_carries_47 rfl ?_
    refine c_get C0 in_X4 (ci := 7) rfl (20 + 2 * i2) (fun cel h => ci_s h i2 hi2) 4 (by decide) wf_X5_43 (v := .int (((G 9) i2))) rfl dX5_carries_48 ?_
    refine c_iald C0 8 (fun cel h => ci_8 h) (v := ((G 2) (((G 9) i2)).toNatClampNeg)) (hb i2 hi2) dX5_carries_51 rfl ?_
    refine j_iadd C0 dX5_carries_52 ?_
    refine j_istore C0 (L' := [(0, .ref (ad 1)), (1, .ref ((sa i2))), (2, .int (a2)), (3, .int (a3)), (4, .int ((((G 7) i2) + (5 : Int32)))), (5, .int (((vX5_depthAt F G N Q (a3)) + (30 : Int32)))), (6, .int (((vX5_depthAt F G N Q ((a3 + (1 : Int32)))) + ((G 2) (((G 9) i2)).toNatClampNeg))))]) dX5_carries_53 (by decide) rfl ?_
    refine j_iload C0 dX5_carries_55 rfl ?_
    refine j_iload C0 dX5_carries_57 rfl ?_
    refine j_icmp_lt C0 73 dX5_carries_59 (by decide) (fun (q3 : ((vX5_depthAt F G N Q (a3)) + (30 : Int32)) < (((G 7) i2) + (5 : Int32))) => ?_) (fun (q3 : ¬ (((vX5_depthAt F G N Q (a3)) + (30 : Int32)) < (((G 7) i2) + (5 : Int32)))) => ?_)
    ·
      refine j_iconst C0 (v := 0) dX5_carries_73 (by decide) ?_
      exact j_zretE C0 rfl (by rw [vX5_carries, if_pos q1, if_pos q3]) (by decide) dX5_carries_74 (fun H h => h)
    ·
      refine j_iload C0 dX5_carries_62 rfl ?_
      refine j_iload C0 dX5_carries_64 rfl ?_
      refine j_icmp_lt C0 73 dX5_carries_66 (by decide) (fun (q4 : ((vX5_depthAt F G N Q ((a3 + (1 : Int32)))) + ((G 2) (((G 9) i2)).toNatClampNeg)) < (((G 7) i2) + (5 : Int32))) => ?_) (fun (q4 : ¬ (((vX5_depthAt F G N Q ((a3 + (1 : Int32)))) + ((G 2) (((G 9) i2)).toNatClampNeg)) < (((G 7) i2) + (5 : Int32)))) => ?_)
      ·
        refine j_iconst C0 (v := 0) dX5_carries_73 (by decide) ?_
        exact j_zretE C0 rfl (by rw [vX5_carries, if_pos q1, if_neg q3, if_pos q4]) (by decide) dX5_carries_74 (fun H h => h)
      ·
        refine j_iconst C0 (v := 1) dX5_carries_69 (by decide) ?_
        refine j_goto C0 74 dX5_carries_70 (by decide) ?_
        exact j_zretE C0 rfl (by rw [vX5_carries, if_pos q1, if_neg q3, if_neg q4]) (by decide) dX5_carries_74 (fun H h => h)
  ·
    refine j_iload_n C0 dX5_carries_13 rfl ?_
    refine j_iconst C0 (v := 1) dX5_carries_14 (by decide) ?_
    refine j_iadd C0 dX5_carries_15 ?_
    refine j_goto C0 20 dX5_carries_16 (by decide) ?_
    refine j_callVv C0 (k_X5_depthAt hsl ad F G N Q sa ma  ((a3 + (1 : Int32)))  h4) mv_X5_depthAt wm_X5_39 (c_recv C0 (ci := 8) rfl 1 (fun cel h => ⟨_, ci_1 h⟩)) rfl rfl ⟨Nat.le_of_ble_eq_true rfl, Nat.le_of_ble_eq_true rfl⟩ (Nat.le_of_ble_eq_true rfl) ⟨Nat.le_refl _, Nat.le_refl _⟩ dX5_carries_20 ?_
    show J p l e _ s m args below meth c A 7 _ (CO D Y A tE ad (F 0) (F 1) (F 2) (G 0) (G 1) (G 2) (G 3) (G 4) (G 5) (G 6) (G 7) (G 8) (G 9) (G 10) (G 11) (G 12) (G 13) (G 14) (G 15) (G 16) (G 17) (G 18) (G 19) (N 0) (N 1) (N 2) (Q 0) (Q 1) sa ma) 0 0 23 [(0, .ref (ad 1)), (1, .ref ((sa i2))), (2, .int (a2)), (3, .int (a3)), (4, .int ((((G 7) i2) + (5 : Int32))))] [.int ((vX5_depthAt F G N Q ((a3 + (1 : Int32)))))]
    refine j_bipush C0 (v := 30) dX5_carries_23 (by decide) ?_
    refine j_iadd C0 dX5_carries_25 ?_
    refine j_istore C0 (L' := [(0, .ref (ad 1)), (1, .ref ((sa i2))), (2, .int (a2)), (3, .int (a3)), (4, .int ((((G 7) i2) + (5 : Int32)))), (5, .int (((vX5_depthAt F G N Q ((a3 + (1 : Int32)))) + (30 : Int32))))]) dX5_carries_26 (by decide) rfl ?_
    refine j_aload_n C0 dX5_carries_28 rfl ?_
    refine j_iload_n C0 dX5_carries_29 rfl ?_
    refine j_if_eq C0 37 dX5_carries_30 (by decide) (fun z => absurd z q1) (fun _ => ?_)
    refine j_iload_n C0 dX5_carries_33 rfl ?_
    refine j_goto C0 40 dX5_carries_34 (by decide) ?_
    refine j_callVv C0 (k_X5_depthAt hsl ad F G N Q sa ma  (a3)  h3) mv_X5_depthAt wm_X5_39 (c_recv C0 (ci := 8) rfl 1 (fun cel h => ⟨_, ci_1 h⟩)) rfl rfl ⟨Nat.le_of_ble_eq_true rfl, Nat.le_of_ble_eq_true rfl⟩ (Nat.le_of_ble_eq_true rfl) ⟨Nat.le_refl _, Nat.le_refl _⟩ dX5_carries_40 ?_
    show J p l e _ s m args below meth c A 7 _ (CO D Y A tE ad (F 0) (F 1) (F 2) (G 0) (G 1) (G 2) (G 3) (G 4) (G 5) (G 6) (G 7) (G 8) (G 9) (G 10) (G 11) (G 12) (G 13) (G 14) (G 15) (G 16) (G 17) (G 18) (G 19) (N 0) (N 1) (N 2) (Q 0) (Q 1) sa ma) 0 0 43 [(0, .ref (ad 1)), (1, .ref ((sa i2))), (2, .int (a2)), (3, .int (a3)), (4, .int ((((G 7) i2) + (5 : Int32)))), (5, .int (((vX5_depthAt F G N Q ((a3 + (1 : Int32)))) + (30 : Int32))))] [.int ((vX5_depthAt F G N Q (a3)))]
    refine j_aload_n C0 dX5_carries_43 rfl ?_
    refine c_get C0 in_X5 (ci := 8) rfl 1 (fun cel h => ci_1 h) 2 (by decide) wf_X5_18 rfl dX5_carries_44 ?_
    refine j_aload_n C0 dX5_carries_47 rfl ?_
    refine c_get C0 in_X4 (ci := 7) rfl (20 + 2 * i2) (fun cel h => ci_s h i2 hi2) 4 (by decide) wf_X5_43 (v := .int (((G 9) i2))) rfl dX5_carries_48 ?_
    refine c_iald C0 8 (fun cel h => ci_8 h) (v := ((G 2) (((G 9) i2)).toNatClampNeg)) (hb i2 hi2) dX5_carries_51 rfl ?_
    refine j_iadd C0 dX5_carries_52 ?_
    refine j_istore C0 (L' := [(0, .ref (ad 1)), (1, .ref ((sa i2))), (2, .int (a2)), (3, .int (a3)), (4, .int ((((G 7) i2) + (5 : Int32)))), (5, .int (((vX5_depthAt F G N Q ((a3 + (1 : Int32)))) + (30 : Int32)))), (6, .int (((vX5_depthAt F G N Q (a3)) + ((G 2) (((G 9) i2)).toNatClampNeg))))]) dX5_carries_53 (by decide) rfl ?_
    refine j_iload C0 dX5_carries_55 rfl ?_
    refine j_iload C0 dX5_carries_57 rfl ?_
    refine j_icmp_lt C0 73 dX5_carries_59 (by decide) (fun (q6 : ((vX5_depthAt F G N Q ((a3 + (1 : Int32)))) + (30 : Int32)) < (((G 7) i2) + (5 : Int32))) => ?_) (fun (q6 : ¬ (((vX5_depthAt F G N Q ((a3 + (1 : Int32)))) + (30 : Int32)) < (((G 7) i2) + (5 : Int32)))) => ?_)
    ·
      refine j_iconst C0 (v := 0) dX5_carries_73 (by decide) ?_
      exact j_zretE C0 rfl (by rw [vX5_carries, if_neg q1, if_pos q6]) (by decide) dX5_carries_74 (fun H h => h)
    ·
      refine j_iload C0 dX5_carries_62 rfl ?_
      refine j_iload C0 dX5_carries_64 rfl ?_
      refine j_icmp_lt C0 73 dX5_carries_66 (by decide) (fun (q7 : ((vX5_depthAt F G N Q (a3)) + ((G 2) (((G 9) i2)).toNatClampNeg)) < (((G 7) i2) + (5 : Int32))) => ?_) (fun (q7 : ¬ (((vX5_depthAt F G N Q (a3)) + ((G 2) (((G 9) i2)).toNatClampNeg)) < (((G 7) i2) + (5 : Int32)))) => ?_)
      ·
        refine j_iconst C0 (v := 0) dX5_carries_73 (by decide) ?_
        exact j_zretE C0 rfl (by rw [vX5_carries, if_neg q1, if_neg q6, if_pos q7]) (by decide) dX5_carries_74 (fun H h => h)
      ·
        refine j_iconst C0 (v := 1) dX5_carries_69 (by decide) ?_
        refine j_goto C0 74 dX5_carries_70 (by decide) ?_
        exact j_zretE C0 rfl (by rw [vX5_carries, if_neg q1, if_neg q6, if_neg q7]) (by decide) dX5_carries_74 (fun H h => h)
theorem z_X5_carries : ∀ F G N Q i2 a2 a3, vX5_carries F G N Q i2 a2 a3 = 0 ∨ vX5_carries F G N Q i2 a2 a3 = 1 := by
  intro F G N Q i2 a2 a3
  unfold vX5_carries
  repeat' split
  all_goals first | exact Or.inl rfl | exact Or.inr rfl
