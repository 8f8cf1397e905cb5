def CH (D : va_G) (Y : Nat → ClassId) (A : Nat → Prop) (tE : Nat) (ad : Nat → Nat) (F : Nat → Int32) (G : Nat → Nat → Int32) (N : Nat → Nat) (Q : Nat → Nat → Nat) (sa : Nat → Nat) : Heap → Prop := fun H => ∃ ma, CR D Y A tE ad F G N Q sa ma H
theorem bk_inr {α ρ : Type} {f : Nat → α → α ⊕ ρ} {a : α} {r : ρ} : ∀ {N : Nat}, bk f a N = .inr r → ∃ j v, j < N ∧ bk f a j = .inl v ∧ f j v = .inr r := by
  intro N
  induction N with
  | zero => intro h; cases h
  | succ n ih =>
    intro h
    rw [bk] at h
    cases hb : bk f a n with
    | inl v => rw [hb] at h; exact ⟨n, v, by omega, hb, h⟩
    | inr x =>
      rw [hb] at h
      cases h
      obtain ⟨j, v, h1, h2⟩ := ih hb
      exact ⟨j, v, by omega, h2⟩
/-! ## HarborTides$OrderQueue.insert(LHarborTides$Ship;)V -/
def bX2_insert_2 (F : Nat → Int32) (G : Nat → Nat → Int32) (N : Nat → Nat) (Q : Nat → Nat → Nat) (i2 : Nat) (j2 : Nat) (v2 : Unit) : (Unit) ⊕ (Nat) := (if (vX4_isAheadOf F G N Q (((Q 0) j2)) (i2)) = 0 then (.inr (j2)) else (.inl ()))
def sX2_insert (F : Nat → Int32) (G : Nat → Nat → Int32) (N : Nat → Nat) (Q : Nat → Nat → Nat) (i2 : Nat) : Nat × (Nat → Nat) := (bkE (bk (bX2_insert_2 F G N Q i2) () ((N 2))) (fun w4 => (((N 2) + 1), (insG (Q 0) (((N 2))) i2))) (fun r6 => (((N 2) + 1), (insG (Q 0) r6 i2))))
theorem ins_lt {F : Nat → Int32} {G : Nat → Nat → Int32} {N : Nat → Nat} {Q : Nat → Nat → Nat} {i2 r : Nat} (h : bk (bX2_insert_2 F G N Q i2) () (N 2) = .inr r) : r < N 2 := by
  obtain ⟨j, v, h1, h2, h3⟩ := bk_inr h
  rw [bX2_insert_2] at h3
  split at h3
  · cases h3; exact h1
  · cases h3
set_option maxRecDepth 100000 in
set_option maxHeartbeats 4000000 in
theorem k_X2_insert {l : Launch} (hsl : l.stackTraces = false) {D : va_G} {Y : Nat → ClassId} {A : Nat → Prop} {E : State → Prop} {tE : Nat} {mi : Nat} (hE : ∀ U, E U → EC A tE mi U) (ad : Nat → Nat) (F : Nat → Int32) (G : Nat → Nat → Int32) (N : Nat → Nat) (Q : Nat → Nat → Nat) (sa ma : Nat → Nat) (i2 : Nat) (hi2 : i2 < N 0) (h9 : N 2 < 100) : KM l yX2_insert cX2_insert 3 none D Y A E 6 300 1 160 [.ref (ad 5), .ref ((sa i2))] (CR D Y A tE ad F G N Q sa ma) none (CR D Y A tE ad F G (hu N 2 (sX2_insert F G N Q i2).1) (hu Q 0 (sX2_insert F G N Q i2).2) sa ma) := by
  refine KM_of RX2 [(0, .ref (ad 5)), (1, .ref ((sa i2)))] rfl (by decide) hsl (Nat.le_of_ble_eq_true rfl) rfl (lok_of rfl rfl) ?_
  intro p e s m args below meth c C0
  show J p l e _ s m args below meth c A 3 _ (CO D Y A tE ad (F 0) (F 1) (F 2) (G 0) (G 1) (G 2) (G 3) (G 4) (G 5) (G 6) (G 7) (G 8) (G 9) (G 10) (G 11) (G 12) (G 13) (G 14) (G 15) (G 16) (G 17) (G 18) (G 19) (N 0) (N 1) (N 2) (Q 0) (Q 1) sa ma) 0 0 0 [(0, .ref (ad 5)), (1, .ref ((sa i2)))] []
  refine c_fact (fun cel h => ci_f h) (fun hcf => ?_)
  obtain ⟨hn0, hn1, hn2, hq0, hq1⟩ := hcf
  refine j_iconst C0 (v := 0) dX2_insert_0 (by decide) ?_
  refine j_istore_n C0 (L' := [(0, .ref (ad 5)), (1, .ref ((sa i2))), (2, .int ((0 : Int32)))]) dX2_insert_1 (by decide) rfl ?_
  refine hb_bk _ _ (P := fun R0 Q0 (j : Nat) (v : Unit) => J p l e R0 s m args below meth c A 3 Q0 (CO D Y A tE ad (F 0) (F 1) (F 2) (G 0) (G 1) (G 2) (G 3) (G 4) (G 5) (G 6) (G 7) (G 8) (G 9) (G 10) (G 11) (G 12) (G 13) (G 14) (G 15) (G 16) (G 17) (G 18) (G 19) (N 0) (N 1) (N 2) (Q 0) (Q 1) sa ma) 0 0 2 [(0, .ref (ad 5)), (1, .ref ((sa i2))), (2, .int (nI j))] []) (RR := fun R0 Q0 => (fun (r0 : Nat) => J p l e R0 s m args below meth c A 3 Q0 (CO D Y A tE ad (F 0) (F 1) (F 2) (G 0) (G 1) (G 2) (G 3) (G 4) (G 5) (G 6) (G 7) (G 8) (G 9) (G 10) (G 11) (G 12) (G 13) (G 14) (G 15) (G 16) (G 17) (G 18) (G 19) (N 0) (N 1) (N 2) (Q 0) (Q 1) sa ma) 0 0 37 [(0, .ref (ad 5)), (1, .ref ((sa i2))), (2, .int (nI r0))] [])) (bX2_insert_2 F G N Q i2) () ((N 2)) ?_ ?_
  rotate_left
  ·
    intro j2 hj2 v2 hv2 K2
    clear hv2
    show J p l e _ s m args below meth c A 3 _ (CO D Y A tE ad (F 0) (F 1) (F 2) (G 0) (G 1) (G 2) (G 3) (G 4) (G 5) (G 6) (G 7) (G 8) (G 9) (G 10) (G 11) (G 12) (G 13) (G 14) (G 15) (G 16) (G 17) (G 18) (G 19) (N 0) (N 1) (N 2) (Q 0) (Q 1) sa ma) 0 0 2 [(0, .ref (ad 5)), (1, .ref ((sa i2))), (2, .int (nI j2))] []
    refine j_iload_n C0 dX2_insert_2 rfl ?_
    refine j_aload_n C0 dX2_insert_3 rfl ?_
    refine c_get C0 in_X2 (ci := 5) rfl 5 (fun cel h => ci_5 h) 0 (by decide) wf_X2_12 rfl dX2_insert_4 ?_
    refine j_callVv C0 (kc_size hsl (fun cel h => ci_Q h)) mv_Jx4a65c_size_8abf5 wm_X2_18 (c_recv C0 (ci := 2) rfl 14 (fun cel h => ci_rQ h)) rfl rfl ⟨Nat.le_of_ble_eq_true rfl, Nat.le_of_ble_eq_true rfl⟩ (Nat.le_of_ble_eq_true rfl) ⟨Nat.zero_le _, Nat.zero_le _⟩ dX2_insert_7 ?_
    refine j_icmp_ge C0 37 dX2_insert_10 (by decide) (fun z => absurd z (nI_ge hj2 (by omega))) (fun _ => ?_)
    refine j_aload_n C0 dX2_insert_13 rfl ?_
    refine c_get C0 in_X2 (ci := 5) rfl 5 (fun cel h => ci_5 h) 0 (by decide) wf_X2_12 rfl dX2_insert_14 ?_
    refine j_iload_n C0 dX2_insert_17 rfl ?_
    refine j_callVv C0 (kc_get hsl (fun cel h => ci_Q h) hn2 (i := j2) (by omega)) mv_Jx4a65c_get_915e3 wm_X2_22 (c_recv C0 (ci := 2) rfl 14 (fun cel h => ci_rQ h)) rfl rfl ⟨Nat.le_of_ble_eq_true rfl, Nat.le_of_ble_eq_true rfl⟩ (Nat.le_of_ble_eq_true rfl) ⟨Nat.zero_le _, Nat.zero_le _⟩ dX2_insert_18 ?_
    show J p l e _ s m args below meth c A 3 _ (CO D Y A tE ad (F 0) (F 1) (F 2) (G 0) (G 1) (G 2) (G 3) (G 4) (G 5) (G 6) (G 7) (G 8) (G 9) (G 10) (G 11) (G 12) (G 13) (G 14) (G 15) (G 16) (G 17) (G 18) (G 19) (N 0) (N 1) (N 2) (Q 0) (Q 1) sa ma) 0 0 21 [(0, .ref (ad 5)), (1, .ref ((sa i2))), (2, .int (nI j2))] [.ref ((sa ((Q 0) j2)))]
    refine c_castS C0 (ci := 7) rfl (20 + 2 * ((Q 0) j2)) (fun cel h => ⟨_, ci_s h ((Q 0) j2) (hq0 j2 (by omega))⟩) wc_X2_26 dX2_insert_21 ?_
    refine j_aload_n C0 dX2_insert_24 rfl ?_
    refine j_callVv C0 (k_X4_isAheadOf hsl ad F G N Q sa ma (((Q 0) j2)) (hq0 j2 (by omega)) (i2) hi2 ) mv_X4_isAheadOf wm_X2_28 (c_recv C0 (ci := 7) rfl (20 + 2 * ((Q 0) j2)) (fun cel h => ⟨_, ci_s h ((Q 0) j2) (hq0 j2 (by omega))⟩)) rfl rfl ⟨Nat.le_of_ble_eq_true rfl, Nat.le_of_ble_eq_true rfl⟩ (Nat.le_of_ble_eq_true rfl) ⟨Nat.zero_le _, Nat.zero_le _⟩ dX2_insert_25 ?_
    show J p l e _ s m args below meth c A 3 _ (CO D Y A tE ad (F 0) (F 1) (F 2) (G 0) (G 1) (G 2) (G 3) (G 4) (G 5) (G 6) (G 7) (G 8) (G 9) (G 10) (G 11) (G 12) (G 13) (G 14) (G 15) (G 16) (G 17) (G 18) (G 19) (N 0) (N 1) (N 2) (Q 0) (Q 1) sa ma) 0 0 28 [(0, .ref (ad 5)), (1, .ref ((sa i2))), (2, .int (nI j2))] [.int ((vX4_isAheadOf F G N Q (((Q 0) j2)) (i2)))]
    refine j_if_eq C0 37 dX2_insert_28 (by decide) (fun (q2 : (vX4_isAheadOf F G N Q (((Q 0) j2)) (i2)) = 0) => ?_) (fun (q2 : ¬ ((vX4_isAheadOf F G N Q (((Q 0) j2)) (i2)) = 0)) => ?_)
    ·
      rw [bX2_insert_2, if_pos q2] at K2
      exact K2
    ·
      refine j_iinc C0 (v := nI (j2 + 1)) (L' := [(0, .ref (ad 5)), (1, .ref ((sa i2))), (2, .int (nI (j2 + 1)))]) dX2_insert_31 rfl (nI_inc j2) (by decide) rfl ?_
      refine j_goto C0 2 dX2_insert_34 (by decide) ?_
      rw [bX2_insert_2, if_neg q2] at K2
      exact K2
  cases hb3 : bk (bX2_insert_2 F G N Q i2) () ((N 2)) with
  | inl w4 =>
    show J p l e _ s m args below meth c A 3 _ (CO D Y A tE ad (F 0) (F 1) (F 2) (G 0) (G 1) (G 2) (G 3) (G 4) (G 5) (G 6) (G 7) (G 8) (G 9) (G 10) (G 11) (G 12) (G 13) (G 14) (G 15) (G 16) (G 17) (G 18) (G 19) (N 0) (N 1) (N 2) (Q 0) (Q 1) sa ma) 0 0 2 [(0, .ref (ad 5)), (1, .ref ((sa i2))), (2, .int (nI (((N 2)))))] []
    refine j_iload_n C0 dX2_insert_2 rfl ?_
    refine j_aload_n C0 dX2_insert_3 rfl ?_
    refine c_get C0 in_X2 (ci := 5) rfl 5 (fun cel h => ci_5 h) 0 (by decide) wf_X2_12 rfl dX2_insert_4 ?_
    refine j_callVv C0 (kc_size hsl (fun cel h => ci_Q h)) mv_Jx4a65c_size_8abf5 wm_X2_18 (c_recv C0 (ci := 2) rfl 14 (fun cel h => ci_rQ h)) rfl rfl ⟨Nat.le_of_ble_eq_true rfl, Nat.le_of_ble_eq_true rfl⟩ (Nat.le_of_ble_eq_true rfl) ⟨Nat.zero_le _, Nat.zero_le _⟩ dX2_insert_7 ?_
    refine j_icmp_ge C0 37 dX2_insert_10 (by decide) (fun _ => ?_) (fun z => absurd (nI_le (Nat.le_refl _) (by omega)) z)
    refine j_aload_n C0 dX2_insert_37 rfl ?_
    refine c_get C0 in_X2 (ci := 5) rfl 5 (fun cel h => ci_5 h) 0 (by decide) wf_X2_12 rfl dX2_insert_38 ?_
    refine j_iload_n C0 dX2_insert_41 rfl ?_
    refine j_aload_n C0 dX2_insert_42 rfl ?_
    refine j_callVn C0 (kc_insert hsl hE (i := (((N 2)))) (v := i2) (Nat.le_refl _) hi2 h9) mv_Jx4a65c_add_7a177 wm_X2_32 (c_recv C0 (ci := 2) rfl 14 (fun cel h => ci_rQ h)) rfl rfl ⟨Nat.le_of_ble_eq_true rfl, Nat.le_of_ble_eq_true rfl⟩ (Nat.le_of_ble_eq_true rfl) ⟨Nat.le_of_ble_eq_true rfl, Nat.le_of_ble_eq_true rfl⟩ dX2_insert_43 ?_
    show J p l e _ s m args below meth c A 3 _ (CO D Y A tE ad (F 0) (F 1) (F 2) (G 0) (G 1) (G 2) (G 3) (G 4) (G 5) (G 6) (G 7) (G 8) (G 9) (G 10) (G 11) (G 12) (G 13) (G 14) (G 15) (G 16) (G 17) (G 18) (G 19) (N 0) (N 1) ((N 2) + 1) (insG (Q 0) (((N 2))) i2) (Q 1) sa ma) (0 + 1) (0 + 160) 46 [(0, .ref (ad 5)), (1, .ref ((sa i2))), (2, .int (nI (((N 2)))))] []
    exact j_vret C0 rfl dX2_insert_46 (fun H h => by rw [sX2_insert, hb3, bkE_inl]; exact h)
  | inr r6 =>
    show J p l e _ s m args below meth c A 3 _ (CO D Y A tE ad (F 0) (F 1) (F 2) (G 0) (G 1) (G 2) (G 3) (G 4) (G 5) (G 6) (G 7) (G 8) (G 9) (G 10) (G 11) (G 12) (G 13) (G 14) (G 15) (G 16) (G 17) (G 18) (G 19) (N 0) (N 1) (N 2) (Q 0) (Q 1) sa ma) 0 0 37 [(0, .ref (ad 5)), (1, .ref ((sa i2))), (2, .int (nI r6))] []
    have hlt := ins_lt hb3
    refine j_aload_n C0 dX2_insert_37 rfl ?_
    refine c_get C0 in_X2 (ci := 5) rfl 5 (fun cel h => ci_5 h) 0 (by decide) wf_X2_12 rfl dX2_insert_38 ?_
    refine j_iload_n C0 dX2_insert_41 rfl ?_
    refine j_aload_n C0 dX2_insert_42 rfl ?_
    refine j_callVn C0 (kc_insert hsl hE (i := r6) (v := i2) (Nat.le_of_lt hlt) hi2 h9) mv_Jx4a65c_add_7a177 wm_X2_32 (c_recv C0 (ci := 2) rfl 14 (fun cel h => ci_rQ h)) rfl rfl ⟨Nat.le_of_ble_eq_true rfl, Nat.le_of_ble_eq_true rfl⟩ (Nat.le_of_ble_eq_true rfl) ⟨Nat.le_of_ble_eq_true rfl, Nat.le_of_ble_eq_true rfl⟩ dX2_insert_43 ?_
    show J p l e _ s m args below meth c A 3 _ (CO D Y A tE ad (F 0) (F 1) (F 2) (G 0) (G 1) (G 2) (G 3) (G 4) (G 5) (G 6) (G 7) (G 8) (G 9) (G 10) (G 11) (G 12) (G 13) (G 14) (G 15) (G 16) (G 17) (G 18) (G 19) (N 0) (N 1) ((N 2) + 1) (insG (Q 0) r6 i2) (Q 1) sa ma) (0 + 1) (0 + 160) 46 [(0, .ref (ad 5)), (1, .ref ((sa i2))), (2, .int (nI r6))] []
    exact j_vret C0 rfl dX2_insert_46 (fun H h => by rw [sX2_insert, hb3, bkE_inr]; exact h)
def pO (F : Nat → Int32) (G : Nat → Nat → Int32) (N : Nat → Nat) (Q : Nat → Nat → Nat) (i2 : Nat) : Nat := bkE (bk (bX2_placeOf_2 F G N Q i2) () (N 2)) (fun _ => 0) (fun r => r)
theorem pO_spec {F : Nat → Int32} {G : Nat → Nat → Int32} {N : Nat → Nat} {Q : Nat → Nat → Nat} {i2 : Nat} (h9 : N 2 ≤ 100) : (vX2_placeOf F G N Q i2 = -1 ∧ ∀ j, j < N 2 → ¬ Q 0 j = i2) ∨ (vX2_placeOf F G N Q i2 = nI (pO F G N Q i2) ∧ pO F G N Q i2 < N 2 ∧ Q 0 (pO F G N Q i2) = i2 ∧ ∀ j, j < pO F G N Q i2 → ¬ Q 0 j = i2) := by
  have key : ∀ n v, bk (bX2_placeOf_2 F G N Q i2) () n = .inl v → ∀ j, j < n → ¬ Q 0 j = i2 := by
    intro n
    induction n with
    | zero => intro v _ j hj; omega
    | succ n ih =>
      intro v h j hj
      rw [bk] at h
      cases hb : bk (bX2_placeOf_2 F G N Q i2) () n with
      | inl u =>
        rw [hb] at h
        change bX2_placeOf_2 F G N Q i2 n u = .inl v at h
        rw [bX2_placeOf_2] at h
        split at h
        · cases h
        · rename_i hq
          by_cases e : j = n
          · rw [e]; exact hq
          · exact ih u hb j (by omega)
      | inr r => rw [hb] at h; cases h
  unfold vX2_placeOf pO
  cases hb : bk (bX2_placeOf_2 F G N Q i2) () (N 2) with
  | inl u => exact Or.inl ⟨rfl, key _ _ hb⟩
  | inr r =>
    obtain ⟨j, v, h1, h2, h3⟩ := bk_inr hb
    rw [bX2_placeOf_2] at h3
    split at h3
    · rename_i hq
      cases h3
      exact Or.inr ⟨rfl, h1, hq, key _ _ h2⟩
    · cases h3
theorem pO_ne {F : Nat → Int32} {G : Nat → Nat → Int32} {N : Nat → Nat} {Q : Nat → Nat → Nat} {i2 : Nat} (h9 : N 2 ≤ 100) (h : ¬ vX2_placeOf F G N Q i2 = -1) : vX2_placeOf F G N Q i2 = nI (pO F G N Q i2) ∧ pO F G N Q i2 < N 2 := by
  rcases pO_spec (F := F) (G := G) (Q := Q) (i2 := i2) h9 with ⟨h1, -⟩ | ⟨h1, h2, -⟩
  · exact absurd h1 h
  · exact ⟨h1, h2⟩
/-! ## HarborTides$OrderQueue.drop(LHarborTides$Ship;)V -/
def sX2_drop (F : Nat → Int32) (G : Nat → Nat → Int32) (N : Nat → Nat) (Q : Nat → Nat → Nat) (i2 : Nat) : Nat × (Nat → Nat) × (Nat → Int32) := (if (vX2_placeOf F G N Q (i2)) = (-1 : Int32) then ((N 2), (Q 0), (upd (G 12) i2 (-1 : Int32))) else (((N 2) - 1), (delG (Q 0) (pO F G N Q i2)), (upd (G 12) i2 (-1 : Int32))))
set_option maxRecDepth 100000 in
set_option maxHeartbeats 4000000 in
theorem k_X2_drop {l : Launch} (hsl : l.stackTraces = false) {D : va_G} {Y : Nat → ClassId} {A : Nat → Prop} {E : State → Prop} {tE : Nat} {mi : Nat} (hE : ∀ U, E U → EC A tE mi U) (ad : Nat → Nat) (F : Nat → Int32) (G : Nat → Nat → Int32) (N : Nat → Nat) (Q : Nat → Nat → Nat) (sa ma : Nat → Nat) (i2 : Nat) (hi2 : i2 < N 0)  : KM l yX2_drop cX2_drop 3 none D Y A E 4 200 0 0 [.ref (ad 5), .ref ((sa i2))] (CR D Y A tE ad F G N Q sa ma) none (CR D Y A tE ad F (hu G 12 (sX2_drop F G N Q i2).2.2) (hu N 2 (sX2_drop F G N Q i2).1) (hu Q 0 (sX2_drop F G N Q i2).2.1) sa ma) := by
  refine KM_of RX2 [(0, .ref (ad 5)), (1, .ref ((sa i2)))] rfl (by decide) hsl (Nat.le_of_ble_eq_true rfl) rfl (lok_of rfl rfl) ?_
  intro p e s m args below meth c C0
  show J p l e _ s m args below meth c A 3 _ (CO D Y A tE ad (F 0) (F 1) (F 2) (G 0) (G 1) (G 2) (G 3) (G 4) (G 5) (G 6) (G 7) (G 8) (G 9) (G 10) (G 11) (G 12) (G 13) (G 14) (G 15) (G 16) (G 17) (G 18) (G 19) (N 0) (N 1) (N 2) (Q 0) (Q 1) sa ma) 0 0 0 [(0, .ref (ad 5)), (1, .ref ((sa i2)))] []
  refine c_fact (fun cel h => ci_f h) (fun hcf => ?_)
  obtain ⟨hn0, hn1, hn2, hq0, hq1⟩ := hcf
  refine j_aload_n C0 dX2_drop_0 rfl ?_
  refine j_aload_n C0 dX2_drop_1 rfl ?_
  refine j_callVv C0 (k_X2_placeOf hsl ad F G N Q sa ma  (i2) hi2 ) mv_X2_placeOf wm_X2_36 (c_recv C0 (ci := 5) rfl 5 (fun cel h => ⟨_, ci_5 h⟩)) rfl rfl ⟨Nat.le_of_ble_eq_true rfl, Nat.le_of_ble_eq_true rfl⟩ (Nat.le_of_ble_eq_true rfl) ⟨Nat.le_refl _, Nat.le_refl _⟩ dX2_drop_2 ?_
  show J p l e _ s m args below meth c A 3 _ (CO D Y A tE ad (F 0) (F 1) (F 2) (G 0) (G 1) (G 2) (G 3) (G 4) (G 5) (G 6) (G 7) (G 8) (G 9) (G 10) (G 11) (G 12) (G 13) (G 14) (G 15) (G 16) (G 17) (G 18) (G 19) (N 0) (N 1) (N 2) (Q 0) (Q 1) sa ma) 0 0 5 [(0, .ref (ad 5)), (1, .ref ((sa i2)))] [.int ((vX2_placeOf F G N Q (i2)))]
  refine j_istore_n C0 (L' := [(0, .ref (ad 5)), (1, .ref ((sa i2))), (2, .int ((vX2_placeOf F G N Q (i2))))]) dX2_drop_5 (by decide) rfl ?_
  refine j_iload_n C0 dX2_drop_6 rfl ?_
  refine j_iconst C0 (v := -1) dX2_drop_7 (by decide) ?_
  refine j_icmp_eq C0 20 dX2_drop_8 (by decide) (fun (q1 : (vX2_placeOf F G N Q (i2)) = (-1 : Int32)) => ?_) (fun (q1 : ¬ ((vX2_placeOf F G N Q (i2)) = (-1 : Int32))) => ?_)
  ·
    refine j_aload_n C0 dX2_drop_20 rfl ?_
    refine j_iconst C0 (v := -1) dX2_drop_21 (by decide) ?_
    refine c_put C0 in_X4 tyX4 tyX4_ok nmX4 (ci := 7) (P := (CIV Y tE ad (F 0) (F 1) (F 2) (G 0) (G 1) (G 2) (G 3) (G 4) (G 5) (G 6) (G 7) (G 8) (G 9) (G 10) (G 11) (G 12) (G 13) (G 14) (G 15) (G 16) (G 17) (G 18) (G 19) (N 0) (N 1) (N 2) (Q 0) (Q 1) sa ma)) (P' := (CIV Y tE ad (F 0) (F 1) (F 2) (G 0) (G 1) (G 2) (G 3) (G 4) (G 5) (G 6) (G 7) (G 8) (G 9) (G 10) (G 11) (upd (G 12) i2 (-1 : Int32)) (G 13) (G 14) (G 15) (G 16) (G 17) (G 18) (G 19) (N 0) (N 1) (N 2) (Q 0) (Q 1) sa ma)) rfl (20 + 2 * i2) (fun cel h => ci_s h i2 hi2) 7 (by decide) wf_X2_43 rfl (tyX4_ok 7 (by decide)) rfl rfl (show 7 < 11 from by decide) dX2_drop_22 (fun cel h => cs_7 _ h hi2) ?_
    exact j_vret C0 rfl dX2_drop_25 (fun H h => by rw [sX2_drop, if_pos q1]; exact h)
  ·
    refine j_aload_n C0 dX2_drop_11 rfl ?_
    refine c_get C0 in_X2 (ci := 5) rfl 5 (fun cel h => ci_5 h) 0 (by decide) wf_X2_12 rfl dX2_drop_12 ?_
    refine j_iload_n C0 dX2_drop_15 rfl ?_
    refine j_top (nI (pO F G N Q i2)) (pO_ne hn2 q1).1 ?_
    refine j_callVv C0 (kc_remove hsl hE (i := (pO F G N Q i2)) (pO_ne hn2 q1).2) mv_Jx4a65c_remove_915e3 wm_X2_40 (c_recv C0 (ci := 2) rfl 14 (fun cel h => ci_rQ h)) rfl rfl ⟨Nat.le_of_ble_eq_true rfl, Nat.le_of_ble_eq_true rfl⟩ (Nat.le_of_ble_eq_true rfl) ⟨Nat.le_refl _, Nat.le_refl _⟩ dX2_drop_16 ?_
    show J p l e _ s m args below meth c A 3 _ (CO D Y A tE ad (F 0) (F 1) (F 2) (G 0) (G 1) (G 2) (G 3) (G 4) (G 5) (G 6) (G 7) (G 8) (G 9) (G 10) (G 11) (G 12) (G 13) (G 14) (G 15) (G 16) (G 17) (G 18) (G 19) (N 0) (N 1) ((N 2) - 1) (delG (Q 0) (pO F G N Q i2)) (Q 1) sa ma) 0 0 19 [(0, .ref (ad 5)), (1, .ref ((sa i2))), (2, .int ((vX2_placeOf F G N Q (i2))))] [.ref ((sa ((Q 0) (pO F G N Q i2))))]
    refine j_pop C0 dX2_drop_19 rfl ?_
    refine j_aload_n C0 dX2_drop_20 rfl ?_
    refine j_iconst C0 (v := -1) dX2_drop_21 (by decide) ?_
    refine c_put C0 in_X4 tyX4 tyX4_ok nmX4 (ci := 7) (P := (CIV Y tE ad (F 0) (F 1) (F 2) (G 0) (G 1) (G 2) (G 3) (G 4) (G 5) (G 6) (G 7) (G 8) (G 9) (G 10) (G 11) (G 12) (G 13) (G 14) (G 15) (G 16) (G 17) (G 18) (G 19) (N 0) (N 1) ((N 2) - 1) (delG (Q 0) (pO F G N Q i2)) (Q 1) sa ma)) (P' := (CIV Y tE ad (F 0) (F 1) (F 2) (G 0) (G 1) (G 2) (G 3) (G 4) (G 5) (G 6) (G 7) (G 8) (G 9) (G 10) (G 11) (upd (G 12) i2 (-1 : Int32)) (G 13) (G 14) (G 15) (G 16) (G 17) (G 18) (G 19) (N 0) (N 1) ((N 2) - 1) (delG (Q 0) (pO F G N Q i2)) (Q 1) sa ma)) rfl (20 + 2 * i2) (fun cel h => ci_s h i2 hi2) 7 (by decide) wf_X2_43 rfl (tyX4_ok 7 (by decide)) rfl rfl (show 7 < 11 from by decide) dX2_drop_22 (fun cel h => cs_7 _ h hi2) ?_
    exact j_vret C0 rfl dX2_drop_25 (fun H h => by rw [sX2_drop, if_neg q1]; exact h)
