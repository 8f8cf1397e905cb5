/-- the world, all addresses hidden -/
def CA (D : va_G) (Y : Nat → ClassId) (A : Nat → Prop) (tE : Nat) (ad : Nat → Nat) (F : Nat → Int32) (G : Nat → Nat → Int32) (N : Nat → Nat) (Q : Nat → Nat → Nat) : Heap → Prop := fun H => ∃ sa, CH D Y A tE ad F G N Q sa H
/-! ## HarborTides.checkPlace(II)V -/
def eX6_checkPlace (a1 : Int32) (a2 : Int32) : Nat := (if a1 < 0 then 1 else (if a1 < a2 then 0 else 1))
set_option maxRecDepth 100000 in
set_option maxHeartbeats 4000000 in
theorem k_X6_checkPlace {l : Launch} (hsl : l.stackTraces = false) {D : va_G} {Y : Nat → ClassId} {A : Nat → Prop} {E : State → Prop} {tE mi : Nat} (hE : ∀ U, E U → EC A tE mi U) {Ω : Heap → Prop} (a1 : Int32) (a2 : Int32)  (hgw : GW Ω)  : XM l yX6_checkPlace cX6_checkPlace 2 none D Y A E 6 90 1 6 [.int (a1), .int (a2)] Ω none (eX6_checkPlace a1 a2) Ω := by
  refine XM_of RX6 [(0, .int (a1)), (1, .int (a2))] rfl (by decide) hsl (Nat.le_of_ble_eq_true rfl) rfl (lok_of rfl rfl) ?_
  intro p e s m args below meth c C0 hexc
  refine j_iload_n C0 dX6_checkPlace_0 rfl ?_
  refine j_if_lt C0 9 dX6_checkPlace_1 (by decide) (fun (q1 : a1 < 0) => ?_) (fun (q1 : ¬ (a1 < 0)) => ?_)
  ·
    exact j_throw C0 hexc hE (text := "there is no such number or place") rfl (by decide) at_I ag_I (by decide) dX6_checkPlace_9 dX6_checkPlace_12 dX6_checkPlace_13 dX6_checkPlace_15 dX6_checkPlace_18 (by rw [eX6_checkPlace, if_pos q1]; decide) (by rw [eX6_checkPlace, if_pos q1]; rfl) hgw (fun H h => h) (Nat.le_of_ble_eq_true rfl) (Nat.le_of_ble_eq_true rfl) (Nat.le_of_ble_eq_true rfl) (Nat.le_of_ble_eq_true rfl) (Nat.le_of_ble_eq_true rfl) (Nat.le_of_ble_eq_true rfl)
  ·
    refine j_iload_n C0 dX6_checkPlace_4 rfl ?_
    refine j_iload_n C0 dX6_checkPlace_5 rfl ?_
    refine j_icmp_lt C0 19 dX6_checkPlace_6 (by decide) (fun (q2 : a1 < a2) => ?_) (fun (q2 : ¬ (a1 < a2)) => ?_)
    ·
      refine j_xret (by rw [eX6_checkPlace, if_neg q1, if_pos q2]) (Nat.le_of_ble_eq_true rfl) (Nat.le_of_ble_eq_true rfl) ?_
      exact j_vret C0 rfl dX6_checkPlace_19 (fun H h => h)
    ·
      exact j_throw C0 hexc hE (text := "there is no such number or place") rfl (by decide) at_I ag_I (by decide) dX6_checkPlace_9 dX6_checkPlace_12 dX6_checkPlace_13 dX6_checkPlace_15 dX6_checkPlace_18 (by rw [eX6_checkPlace, if_neg q1, if_neg q2]; decide) (by rw [eX6_checkPlace, if_neg q1, if_neg q2]; rfl) hgw (fun H h => h) (Nat.le_of_ble_eq_true rfl) (Nat.le_of_ble_eq_true rfl) (Nat.le_of_ble_eq_true rfl) (Nat.le_of_ble_eq_true rfl) (Nat.le_of_ble_eq_true rfl) (Nat.le_of_ble_eq_true rfl)
/-! ## HarborTides.checkRange(III)V -/
def eX6_checkRange (a1 : Int32) (a2 : Int32) (a3 : Int32) : Nat := (if a1 < a2 then 2 else (if a1 ≤ a3 then 0 else 2))
set_option maxRecDepth 100000 in
set_option maxHeartbeats 4000000 in
theorem k_X6_checkRange {l : Launch} (hsl : l.stackTraces = false) {D : va_G} {Y : Nat → ClassId} {A : Nat → Prop} {E : State → Prop} {tE mi : Nat} (hE : ∀ U, E U → EC A tE mi U) {Ω : Heap → Prop} (a1 : Int32) (a2 : Int32) (a3 : Int32)  (hgw : GW Ω)  : XM l yX6_checkRange cX6_checkRange 3 none D Y A E 6 90 1 6 [.int (a1), .int (a2), .int (a3)] Ω none (eX6_checkRange a1 a2 a3) Ω := by
  refine XM_of RX6 [(0, .int (a1)), (1, .int (a2)), (2, .int (a3))] rfl (by decide) hsl (Nat.le_of_ble_eq_true rfl) rfl (lok_of rfl rfl) ?_
  intro p e s m args below meth c C0 hexc
  refine j_iload_n C0 dX6_checkRange_0 rfl ?_
  refine j_iload_n C0 dX6_checkRange_1 rfl ?_
  refine j_icmp_lt C0 10 dX6_checkRange_2 (by decide) (fun (q1 : a1 < a2) => ?_) (fun (q1 : ¬ (a1 < a2)) => ?_)
  ·
    exact j_throw C0 hexc hE (text := "an argument is out of its range") rfl (by decide) at_A ag_A (by decide) dX6_checkRange_10 dX6_checkRange_13 dX6_checkRange_14 dX6_checkRange_16 dX6_checkRange_19 (by rw [eX6_checkRange, if_pos q1]; decide) (by rw [eX6_checkRange, if_pos q1]; rfl) hgw (fun H h => h) (Nat.le_of_ble_eq_true rfl) (Nat.le_of_ble_eq_true rfl) (Nat.le_of_ble_eq_true rfl) (Nat.le_of_ble_eq_true rfl) (Nat.le_of_ble_eq_true rfl) (Nat.le_of_ble_eq_true rfl)
  ·
    refine j_iload_n C0 dX6_checkRange_5 rfl ?_
    refine j_iload_n C0 dX6_checkRange_6 rfl ?_
    refine j_icmp_le C0 20 dX6_checkRange_7 (by decide) (fun (q2 : a1 ≤ a3) => ?_) (fun (q2 : ¬ (a1 ≤ a3)) => ?_)
    ·
      refine j_xret (by rw [eX6_checkRange, if_neg q1, if_pos q2]) (Nat.le_of_ble_eq_true rfl) (Nat.le_of_ble_eq_true rfl) ?_
      exact j_vret C0 rfl dX6_checkRange_20 (fun H h => h)
    ·
      exact j_throw C0 hexc hE (text := "an argument is out of its range") rfl (by decide) at_A ag_A (by decide) dX6_checkRange_10 dX6_checkRange_13 dX6_checkRange_14 dX6_checkRange_16 dX6_checkRange_19 (by rw [eX6_checkRange, if_neg q1, if_neg q2]; decide) (by rw [eX6_checkRange, if_neg q1, if_neg q2]; rfl) hgw (fun H h => h) (Nat.le_of_ble_eq_true rfl) (Nat.le_of_ble_eq_true rfl) (Nat.le_of_ble_eq_true rfl) (Nat.le_of_ble_eq_true rfl) (Nat.le_of_ble_eq_true rfl) (Nat.le_of_ble_eq_true rfl)
theorem cp_ok {a : Int32} {n : Nat} (hn : n < 2 ^ 31) (h : eX6_checkPlace a (nI n) = 0) : vp_in a n := by
  unfold eX6_checkPlace at h
  split at h
  · exact absurd h (by decide)
  · split at h
    · rename_i h1 h2
      intro z
      rcases z with z | z
      · exact h1 z
      · obtain ⟨j, hj, rfl⟩ := nI_of h1
        rw [nI_clamp hj] at z
        exact nI_nlt z hj h2
    · exact absurd h (by decide)
theorem vp_nat {a : Int32} {n : Nat} (hn : n < 2 ^ 31) (h : vp_in a n) : a = nI a.toNatClampNeg ∧ a.toNatClampNeg < n := by
  obtain ⟨j, h1, rfl⟩ := vp_in_of h hn
  rw [nI_clamp (by omega)]
  exact ⟨rfl, h1⟩
