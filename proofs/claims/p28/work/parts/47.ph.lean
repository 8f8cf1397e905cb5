section
theorem z_uu {f : Nat → Int32} {i : Nat} {a b : Int32} : upd (upd f i a) i b = upd f i b := by
  funext j
  by_cases q : j = i
  · rw [q, up_s, up_s]
  · rw [up_n q, up_n q, up_n q]
def zCan6 (F : Nat → Int32) (G : Nat → Nat → Int32) (N : Nat → Nat) (Q : Nat → Nat → Nat) (i : Nat) (o : Int32) : Prop := nI (N 1) < (100 : Int32) ∧ (o = 0 → ¬ vX6_berthIsFreeNow F G N Q (G 9 i) = 0) ∧ (¬ vX6_firstReadyPilot F G N Q = -1) ∧ ¬ vX6_lowestOf (vX0_readyTugs F G N Q (F 0) (N 1)) (G 6 i) = 0
theorem z_begN {F : Nat → Int32} {G : Nat → Nat → Int32} {N : Nat → Nat} {Q : Nat → Nat → Nat} {i : Nat} {o : Int32} (h : ¬ zCan6 F G N Q i o) : vX6_begins F G N Q i o = 0 ∧ sX6_begins F G N Q i o = (N 1, Q 1, F 1, F 2, G 3, G 4, G 10, G 11, G 13, G 16, G 17, G 18, G 19) := by
  rw [vX6_begins, sX6_begins]
  by_cases c1 : nI (N 1) < (100 : Int32)
  · rw [if_pos c1, if_pos c1]
    by_cases c2 : o = 0
    · rw [if_pos c2, if_pos c2]
      by_cases c3 : vX6_berthIsFreeNow F G N Q (G 9 i) = 0
      · rw [if_pos c3, if_pos c3]; exact ⟨rfl, rfl⟩
      · rw [if_neg c3, if_neg c3]
        by_cases c4 : vX6_firstReadyPilot F G N Q = -1
        · rw [if_pos c4, if_pos c4]; exact ⟨rfl, rfl⟩
        · rw [if_neg c4, if_neg c4]
          by_cases c5 : vX6_lowestOf (vX0_readyTugs F G N Q (F 0) (N 1)) (G 6 i) = 0
          · rw [if_pos c5, if_pos c5]; exact ⟨rfl, rfl⟩
          · exact absurd ⟨c1, fun _ => c3, c4, c5⟩ h
    · rw [if_neg c2, if_neg c2]
      by_cases c4 : vX6_firstReadyPilot F G N Q = -1
      · rw [if_pos c4, if_pos c4]; exact ⟨rfl, rfl⟩
      · rw [if_neg c4, if_neg c4]
        by_cases c5 : vX6_lowestOf (vX0_readyTugs F G N Q (F 0) (N 1)) (G 6 i) = 0
        · rw [if_pos c5, if_pos c5]; exact ⟨rfl, rfl⟩
        · exact absurd ⟨c1, fun z => absurd z c2, c4, c5⟩ h
  · rw [if_neg c1, if_neg c1]; exact ⟨rfl, rfl⟩
theorem z_sl {F F' : Nat → Int32} {G G' : Nat → Nat → Int32} {N N' : Nat → Nat} {Q Q' : Nat → Nat → Nat} {a : Int32} (h : G 3 = G' 3) : sX3_sendLast F G N Q a = sX3_sendLast F' G' N' Q' a := by
  rw [sX3_sendLast, sX3_sendLast, h]
  rfl
theorem z_beg0 {F : Nat → Int32} {G : Nat → Nat → Int32} {N : Nat → Nat} {Q : Nat → Nat → Nat} {i : Nat} (h : zCan6 F G N Q i 0) : vX6_begins F G N Q i 0 = 1 ∧ sX6_begins F G N Q i 0 = (N 1 + 1, va_up (Q 1) (N 1) i, F 1 + (30 : Int32) * G 6 i, F 2 + (100 : Int32) * G 6 i, sX3_sendLast F G N Q (vX6_firstReadyPilot F G N Q), upd (G 4) (vX6_firstReadyPilot F G N Q).toNatClampNeg (G 4 (vX6_firstReadyPilot F G N Q).toNatClampNeg + (50 : Int32)), upd (G 10) i 1, upd (G 11) i (F 0), upd (G 13) i (G 13 i + (50 : Int32) + (30 : Int32) * G 6 i + (100 : Int32) * G 6 i), upd (G 16) (N 1) (F 0), upd (G 17) (N 1) 0, upd (G 18) (N 1) (vX6_firstReadyPilot F G N Q), upd (G 19) (N 1) (vX6_lowestOf (vX0_readyTugs F G N Q (F 0) (N 1)) (G 6 i))) := by
  obtain ⟨c1, c3, c4, c5⟩ := h
  have z0 : (0 : Int32) = 0 := rfl
  rw [vX6_begins, sX6_begins, if_pos c1, if_pos c1, if_pos z0, if_pos z0, if_neg (c3 rfl), if_neg (c3 rfl), if_neg c4, if_neg c4, if_neg c5, if_neg c5]
  refine ⟨rfl, ?_⟩
  simp only [sX4_beginMove, if_true, up_s, z_uu]
  rw [z_sl (F' := F) (G' := G) (N' := N) (Q' := Q) rfl]
  rfl
theorem z_beg1 {F : Nat → Int32} {G : Nat → Nat → Int32} {N : Nat → Nat} {Q : Nat → Nat → Nat} {i : Nat} (h : zCan6 F G N Q i 1) : vX6_begins F G N Q i 1 = 1 ∧ sX6_begins F G N Q i 1 = (N 1 + 1, va_up (Q 1) (N 1) i, F 1 + (30 : Int32) * G 6 i, F 2, sX3_sendLast F G N Q (vX6_firstReadyPilot F G N Q), upd (G 4) (vX6_firstReadyPilot F G N Q).toNatClampNeg (G 4 (vX6_firstReadyPilot F G N Q).toNatClampNeg + (50 : Int32)), upd (G 10) i 3, upd (G 11) i (F 0), upd (G 13) i (G 13 i + (50 : Int32) + (30 : Int32) * G 6 i), upd (G 16) (N 1) (F 0), upd (G 17) (N 1) 1, upd (G 18) (N 1) (vX6_firstReadyPilot F G N Q), upd (G 19) (N 1) (vX6_lowestOf (vX0_readyTugs F G N Q (F 0) (N 1)) (G 6 i))) := by
  obtain ⟨c1, c3, c4, c5⟩ := h
  have z0 : ¬ (1 : Int32) = 0 := by decide
  rw [vX6_begins, sX6_begins, if_pos c1, if_pos c1, if_neg z0, if_neg z0, if_neg c4, if_neg c4, if_neg c5, if_neg c5]
  refine ⟨rfl, ?_⟩
  simp only [sX4_beginMove, if_neg z0, up_s, z_uu]
  rw [z_sl (F' := F) (G' := G) (N' := N) (Q' := Q) rfl]
  rfl
def zLose (F : Nat → Int32) (G : Nat → Nat → Int32) (N : Nat → Nat) (Q : Nat → Nat → Nat) (i : Nat) : Nat × (Nat → Nat) × Int32 × Int32 × (Nat → Int32) × (Nat → Int32) × (Nat → Int32) × (Nat → Int32) × (Nat → Int32) × (Nat → Int32) × (Nat → Int32) × (Nat → Int32) × (Nat → Int32) × (Nat → Int32) × (Nat → Int32) := (N 1, Q 1, F 1, F 2, G 3, (sX6_loseTide F G N Q i).1, G 10, G 11, (sX6_loseTide F G N Q i).2.1, (sX6_loseTide F G N Q i).2.2, G 15, G 16, G 17, G 18, G 19)
def zSame (F : Nat → Int32) (G : Nat → Nat → Int32) (N : Nat → Nat) (Q : Nat → Nat → Nat) : Nat × (Nat → Nat) × Int32 × Int32 × (Nat → Int32) × (Nat → Int32) × (Nat → Int32) × (Nat → Int32) × (Nat → Int32) × (Nat → Int32) × (Nat → Int32) × (Nat → Int32) × (Nat → Int32) × (Nat → Int32) × (Nat → Int32) := (N 1, Q 1, F 1, F 2, G 3, G 4, G 10, G 11, G 13, G 14, G 15, G 16, G 17, G 18, G 19)
def zClm (F : Nat → Int32) (G : Nat → Nat → Int32) (N : Nat → Nat) (Q : Nat → Nat → Nat) (i : Nat) : Nat × (Nat → Nat) × Int32 × Int32 × (Nat → Int32) × (Nat → Int32) × (Nat → Int32) × (Nat → Int32) × (Nat → Int32) × (Nat → Int32) × (Nat → Int32) × (Nat → Int32) × (Nat → Int32) × (Nat → Int32) × (Nat → Int32) := (N 1, Q 1, F 1, F 2, G 3, G 4, G 10, G 11, G 13, G 14, upd (G 15) i (G 15 i + (1 : Int32)), G 16, G 17, G 18, G 19)
def zBeg (F : Nat → Int32) (G : Nat → Nat → Int32) (N : Nat → Nat) (Q : Nat → Nat → Nat) (i : Nat) (o : Int32) : Nat × (Nat → Nat) × Int32 × Int32 × (Nat → Int32) × (Nat → Int32) × (Nat → Int32) × (Nat → Int32) × (Nat → Int32) × (Nat → Int32) × (Nat → Int32) × (Nat → Int32) × (Nat → Int32) × (Nat → Int32) × (Nat → Int32) := ((sX6_begins F G N Q i o).1, (sX6_begins F G N Q i o).2.1, (sX6_begins F G N Q i o).2.2.1, (sX6_begins F G N Q i o).2.2.2.1, (sX6_begins F G N Q i o).2.2.2.2.1, (sX6_begins F G N Q i o).2.2.2.2.2.1, (sX6_begins F G N Q i o).2.2.2.2.2.2.1, (sX6_begins F G N Q i o).2.2.2.2.2.2.2.1, (sX6_begins F G N Q i o).2.2.2.2.2.2.2.2.1, G 14, G 15, (sX6_begins F G N Q i o).2.2.2.2.2.2.2.2.2.1, (sX6_begins F G N Q i o).2.2.2.2.2.2.2.2.2.2.1, (sX6_begins F G N Q i o).2.2.2.2.2.2.2.2.2.2.2.1, (sX6_begins F G N Q i o).2.2.2.2.2.2.2.2.2.2.2.2)
theorem z_set6 {F : Nat → Int32} {G : Nat → Nat → Int32} {N : Nat → Nat} {Q : Nat → Nat → Nat} {i t h : Nat} {o : Int32} (ht : t ≤ 3000) (hh : h ≤ 3000) (eF : F 0 = nI t) (eh : G 12 i = nI h) (ho : (G 10 i = 2 ∧ o = 1) ∨ (¬ G 10 i = 2 ∧ o = 0)) :
    (t < h → vX6_settles F G N Q i = 0 ∧ sX6_settles F G N Q i = zSame F G N Q) ∧
    (h = t → vX5_carries F G N Q i o (nI t) = 0 → vX6_settles F G N Q i = 1 ∧ sX6_settles F G N Q i = zLose F G N Q i) ∧
    (h ≤ t → ¬ (h = t ∧ vX5_carries F G N Q i o (nI t) = 0) → (vX5_carries F G N Q i o (nI t) = 0 ∨ ¬ zCan6 F G N Q i o) → (t < h + 3 → vX6_settles F G N Q i = 0 ∧ sX6_settles F G N Q i = zSame F G N Q) ∧ (¬ t < h + 3 → vX6_settles F G N Q i = 1 ∧ sX6_settles F G N Q i = zClm F G N Q i)) ∧
    (h ≤ t → ¬ vX5_carries F G N Q i o (nI t) = 0 → zCan6 F G N Q i o → vX6_settles F G N Q i = 1 ∧ sX6_settles F G N Q i = zBeg F G N Q i o) := by
  have d0 : (0 : Int32) ≤ nI t - nI h ↔ h ≤ t := by
    rw [Int32.le_iff_toInt_le, pk_sub_toInt (by omega) (by omega)]
    rw [show (0 : Int32).toInt = 0 from rfl]; omega
  have d3 : h ≤ t → (nI t - nI h < (3 : Int32) ↔ t < h + 3) := fun q => z_slt (c := 3) (by omega) q (by omega)
  have e0 : h ≤ t → (nI t - nI h = 0 ↔ h = t) := fun q => by
    rw [pk_sub q]
    exact (nI_eq (b := 0) (by omega) (by omega)).trans (by omega)
  have bN := @z_begN F G N Q i o
  have b1 : zCan6 F G N Q i o → ¬ vX6_begins F G N Q i o = 0 := fun q => by
    rcases ho with ⟨_, a⟩ | ⟨_, a⟩
    · rw [a] at q ⊢; rw [(z_beg1 q).1]; decide
    · rw [a] at q ⊢; rw [(z_beg0 q).1]; decide
  have sameB : ¬ zCan6 F G N Q i o → zBeg F G N Q i o = zSame F G N Q := fun q => by rw [zBeg, (bN q).2]; rfl
  have unf : (vX6_settles F G N Q i = if 0 ≤ nI t - nI h then (if nI t - nI h = 0 then (if vX5_carries F G N Q i o (nI t) = 0 then 1 else (if vX6_begins F G N Q i o = 0 then (if nI t - nI h < 3 then 0 else 1) else 1)) else (if vX5_carries F G N Q i o (nI t) = 0 then (if nI t - nI h < 3 then 0 else 1) else (if vX6_begins F G N Q i o = 0 then (if nI t - nI h < 3 then 0 else 1) else 1))) else 0) ∧
      (sX6_settles F G N Q i = if 0 ≤ nI t - nI h then (if nI t - nI h = 0 then (if vX5_carries F G N Q i o (nI t) = 0 then zLose F G N Q i else (if vX6_begins F G N Q i o = 0 then (if nI t - nI h < 3 then zBeg F G N Q i o else ((zBeg F G N Q i o).1, (zBeg F G N Q i o).2.1, (zBeg F G N Q i o).2.2.1, (zBeg F G N Q i o).2.2.2.1, (zBeg F G N Q i o).2.2.2.2.1, (zBeg F G N Q i o).2.2.2.2.2.1, (zBeg F G N Q i o).2.2.2.2.2.2.1, (zBeg F G N Q i o).2.2.2.2.2.2.2.1, (zBeg F G N Q i o).2.2.2.2.2.2.2.2.1, G 14, upd (G 15) i (G 15 i + (1 : Int32)), (zBeg F G N Q i o).2.2.2.2.2.2.2.2.2.2.2.1, (zBeg F G N Q i o).2.2.2.2.2.2.2.2.2.2.2.2.1, (zBeg F G N Q i o).2.2.2.2.2.2.2.2.2.2.2.2.2.1, (zBeg F G N Q i o).2.2.2.2.2.2.2.2.2.2.2.2.2.2)) else zBeg F G N Q i o)) else (if vX5_carries F G N Q i o (nI t) = 0 then (if nI t - nI h < 3 then zSame F G N Q else zClm F G N Q i) else (if vX6_begins F G N Q i o = 0 then (if nI t - nI h < 3 then zBeg F G N Q i o else ((zBeg F G N Q i o).1, (zBeg F G N Q i o).2.1, (zBeg F G N Q i o).2.2.1, (zBeg F G N Q i o).2.2.2.1, (zBeg F G N Q i o).2.2.2.2.1, (zBeg F G N Q i o).2.2.2.2.2.1, (zBeg F G N Q i o).2.2.2.2.2.2.1, (zBeg F G N Q i o).2.2.2.2.2.2.2.1, (zBeg F G N Q i o).2.2.2.2.2.2.2.2.1, G 14, upd (G 15) i (G 15 i + (1 : Int32)), (zBeg F G N Q i o).2.2.2.2.2.2.2.2.2.2.2.1, (zBeg F G N Q i o).2.2.2.2.2.2.2.2.2.2.2.2.1, (zBeg F G N Q i o).2.2.2.2.2.2.2.2.2.2.2.2.2.1, (zBeg F G N Q i o).2.2.2.2.2.2.2.2.2.2.2.2.2.2)) else zBeg F G N Q i o))) else zSame F G N Q) := by
    rw [vX6_settles, sX6_settles, eF, eh]
    rcases ho with ⟨a, b⟩ | ⟨a, b⟩
    · rw [if_pos a, if_pos a, b]; exact ⟨rfl, rfl⟩
    · rw [if_neg a, if_neg a, b]; exact ⟨rfl, rfl⟩
  rw [unf.1, unf.2]
  refine ⟨fun q => ?_, fun q c => ?_, fun q n1 n2 => ⟨fun l => ?_, fun l => ?_⟩, fun q c1 c2 => ?_⟩
  · rw [if_neg (fun z => by have := d0.mp z; omega), if_neg (fun z => by have := d0.mp z; omega)]; exact ⟨rfl, rfl⟩
  · have q' : h ≤ t := by omega
    rw [if_pos (d0.mpr q'), if_pos (d0.mpr q'), if_pos ((e0 q').mpr q), if_pos ((e0 q').mpr q), if_pos c, if_pos c]; exact ⟨rfl, rfl⟩
  · rw [if_pos (d0.mpr q), if_pos (d0.mpr q)]
    by_cases k : h = t
    · have c : ¬ vX5_carries F G N Q i o (nI t) = 0 := fun z => n1 ⟨k, z⟩
      have nb := n2.resolve_left c
      rw [if_pos ((e0 q).mpr k), if_pos ((e0 q).mpr k), if_neg c, if_neg c, if_pos (bN nb).1, if_pos (bN nb).1, if_pos ((d3 q).mpr l), if_pos ((d3 q).mpr l), sameB nb]; exact ⟨rfl, rfl⟩
    · rw [if_neg (fun z => k ((e0 q).mp z)), if_neg (fun z => k ((e0 q).mp z))]
      by_cases c : vX5_carries F G N Q i o (nI t) = 0
      · rw [if_pos c, if_pos c, if_pos ((d3 q).mpr l), if_pos ((d3 q).mpr l)]; exact ⟨rfl, rfl⟩
      · have nb := n2.resolve_left c
        rw [if_neg c, if_neg c, if_pos (bN nb).1, if_pos (bN nb).1, if_pos ((d3 q).mpr l), if_pos ((d3 q).mpr l), sameB nb]; exact ⟨rfl, rfl⟩
  · have l3 : ¬ nI t - nI h < (3 : Int32) := fun z => l ((d3 q).mp z)
    rw [if_pos (d0.mpr q), if_pos (d0.mpr q)]
    by_cases k : h = t
    · omega
    · rw [if_neg (fun z => k ((e0 q).mp z)), if_neg (fun z => k ((e0 q).mp z))]
      by_cases c : vX5_carries F G N Q i o (nI t) = 0
      · rw [if_pos c, if_pos c, if_neg l3, if_neg l3]; exact ⟨rfl, rfl⟩
      · have nb := n2.resolve_left c
        rw [if_neg c, if_neg c, if_pos (bN nb).1, if_pos (bN nb).1, if_neg l3, if_neg l3, sameB nb]; exact ⟨rfl, rfl⟩
  · rw [if_pos (d0.mpr q), if_pos (d0.mpr q)]
    by_cases k : h = t
    · rw [if_pos ((e0 q).mpr k), if_pos ((e0 q).mpr k), if_neg c1, if_neg c1, if_neg (b1 c2), if_neg (b1 c2)]; exact ⟨rfl, rfl⟩
    · rw [if_neg (fun z => k ((e0 q).mp z)), if_neg (fun z => k ((e0 q).mp z)), if_neg c1, if_neg c1, if_neg (b1 c2), if_neg (b1 c2)]; exact ⟨rfl, rfl⟩
end
