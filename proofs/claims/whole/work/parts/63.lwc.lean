section
theorem kw_table {l : Launch} (hsl : l.stackTraces = false) {D : va_G} {Y : Nat → ClassId} {A : Nat → Prop} {E : State → Prop} {tE mi : Nat} (hE : ∀ U, E U → EL A tE mi U) (ad : Nat → Nat) (F : Nat → Int32) (G : Nat → Nat → Int32) (N : Nat → Nat) (Q : Nat → Nat → Nat) (a : Int32) (b : Int32) (o : Nat) (hAo : A o) (w : Int64) (cc : Int32) (hz : (eX6_table F G N Q a b = 0 ∧ cc = 0) ∨ (eX6_table F G N Q a b, cc) ∈ ([(1, 1), (2, 2), (3, 3)] : List (Nat × Int32))) :
    KMW l yL_table cL_table [(0, 10, 13, 13), (0, 10, 17, 15), (0, 10, 21, 17)] 5 (some .int) D Y A E 15 940 8 300 [.ref (ad 0), .int a, .int b, .ref o] (fun H => CA D Y (fun q => A q ∧ q ≠ o) tE ad F G N Q H ∧ OT D Y o w H) (some (.int cc)) (fun H => CA D Y (fun q => A q ∧ q ≠ o) tE ad F (hu G 0 (sX6_table F G N Q a b)) N Q H ∧ ∃ w', (cc = 0 → w' = (vX6_table F G N Q a b).toInt64) ∧ OT D Y o w' H) := by
  have hX : XM l yX6_table cX6_table 4 (some .int) D Y A E 14 900 8 300 [.ref (ad 0), .int a, .int b] (fun H => CA D Y (fun q => A q ∧ q ≠ o) tE ad F G N Q H ∧ OT D Y o w H) (some (.int (vX6_table F G N Q a b))) (eX6_table F G N Q a b) (fun H => CA D Y (fun q => A q ∧ q ≠ o) tE ad F (hu G 0 (sX6_table F G N Q a b)) N Q H ∧ OT D Y o w H) :=
    (k_X6_table hsl (A := fun q => A q ∧ q ≠ o) (E := EC (fun q => A q ∧ q ≠ o) tE mi) (fun U h => h) ad F G N Q a b).sub (fun q h => h.1) (fun U h => (hE U h).1.narrow (fun q z => z.1)) (EC.closed _ tE mi) (fun H h => ⟨h.1, fun q h1 h2 => ⟨h2, fun z => by have := h.2.lt; omega⟩⟩) (fun H H' h h' h1 h2 => ⟨h', h.2.keep (h2 o h.2.lt (fun z => z.2 rfl))⟩)
  generalize eX6_table F G N Q a b = k at hX hz
  refine KMW_of RL [(0, .ref (ad 0)), (1, .int a), (2, .int b), (3, .ref o)] rfl (by decide) hsl (Nat.le_of_ble_eq_true rfl) rfl (lok_of rfl rfl) ?_
  intro p e s m args below meth cd C0 hexc
  have nc := (hE s C0.2.2.2.2.2.2.2.1.2.2.1).2
  have xb := (hE s C0.2.2.2.2.2.2.2.1.2.2.1).1.2.2.2.2.1
  refine j_aload_n C0 dL_table_0 rfl ?_
  refine j_iconst C0 dL_table_1 (v := 0) rfl ?_
  refine j_aload_n C0 dL_table_2 rfl ?_
  refine j_iload_n C0 dL_table_3 rfl ?_
  refine j_iload_n C0 dL_table_4 rfl ?_
  refine j_xcatchV C0 (As := [.int a, .int b]) (rest := [.int 0, .ref o]) hX mv_X6_table wm_L_7 (fun H h => ?_) rfl rfl ⟨Nat.le_of_ble_eq_true rfl, Nat.le_of_ble_eq_true rfl⟩ (Nat.le_of_ble_eq_true rfl) ⟨Nat.le_of_eq (Nat.zero_add _), Nat.le_of_eq (Nat.zero_add _)⟩ dL_table_5 (fun k0 => ?_) (fun k0 => ?_)
  · obtain ⟨sa, ma, h3⟩ := h.1.re (A' := A) (fun q _ z => z.1)
    exact c_recv C0 (ci := 9) rfl 0 (fun cel h => ⟨_, ci_0 h⟩) H h3
  · rcases hz with hz | hz
    · exact absurd hz.1 k0
    · have hz2 : (k = 1 ∧ cc = 1) ∨ (k = 2 ∧ cc = 2) ∨ (k = 3 ∧ cc = 3) := by simpa using hz
      rcases hz2 with ⟨e1, e2⟩ | ⟨e1, e2⟩ | ⟨e1, e2⟩
      · rw [e1] at *
        refine ⟨[], [(⟨0, 10, 17, 15⟩ : ExceptionTableEntry), (⟨0, 10, 21, 17⟩ : ExceptionTableEntry)], (⟨0, 10, 13, 13⟩ : ExceptionTableEntry), "java/lang/IndexOutOfBoundsException", hexc.trans rfl, fun z hz9 => ?_, by decide, by decide, C0.2.2.2.2.1 _ wc_L_13, va_Nw.use rfl (xb _ wk_IndexOutOfBoundsException), fun q => ?_⟩
        · cases hz9
        · refine j_widen (k := 8) (n := 300) (Nat.le_of_eq (Nat.zero_add _)) (Nat.le_of_eq (Nat.zero_add _)) ?_
          refine j_astore C0 dL_table_13 (Nat.le_of_ble_eq_true rfl) rfl ?_
          refine j_iconst C0 dL_table_15 (v := 1) rfl ?_
          rw [e2]
          exact j_iret C0 rfl dL_table_16 (fun H h => ⟨h.1, w, fun z => absurd z (by decide), h.2⟩)
      · rw [e1] at *
        refine ⟨[(⟨0, 10, 13, 13⟩ : ExceptionTableEntry)], [(⟨0, 10, 21, 17⟩ : ExceptionTableEntry)], (⟨0, 10, 17, 15⟩ : ExceptionTableEntry), "java/lang/IllegalArgumentException", hexc.trans rfl, fun z hz9 => ?_, by decide, by decide, C0.2.2.2.2.1 _ wc_L_15, va_Nw.use rfl (xb _ wk_IllegalArgumentException), fun q => ?_⟩
        · have hz8 : z = (⟨0, 10, 13, 13⟩ : ExceptionTableEntry) := by simpa using hz9
          rw [hz8]
          exact Or.inr ⟨by decide, _, C0.2.2.2.2.1 _ wc_L_13, nc.1⟩
        · refine j_widen (k := 8) (n := 300) (Nat.le_of_eq (Nat.zero_add _)) (Nat.le_of_eq (Nat.zero_add _)) ?_
          refine j_astore C0 dL_table_17 (Nat.le_of_ble_eq_true rfl) rfl ?_
          refine j_iconst C0 dL_table_19 (v := 2) rfl ?_
          rw [e2]
          exact j_iret C0 rfl dL_table_20 (fun H h => ⟨h.1, w, fun z => absurd z (by decide), h.2⟩)
      · rw [e1] at *
        refine ⟨[(⟨0, 10, 13, 13⟩ : ExceptionTableEntry), (⟨0, 10, 17, 15⟩ : ExceptionTableEntry)], [], (⟨0, 10, 21, 17⟩ : ExceptionTableEntry), "java/lang/IllegalStateException", hexc.trans rfl, fun z hz9 => ?_, by decide, by decide, C0.2.2.2.2.1 _ wc_L_17, va_Nw.use rfl (xb _ wk_IllegalStateException), fun q => ?_⟩
        · have hz8 : z = (⟨0, 10, 13, 13⟩ : ExceptionTableEntry) ∨ z = (⟨0, 10, 17, 15⟩ : ExceptionTableEntry) := by simpa using hz9
          rcases hz8 with hz8 | hz8
          · rw [hz8]
            exact Or.inr ⟨by decide, _, C0.2.2.2.2.1 _ wc_L_13, nc.2.1⟩
          · rw [hz8]
            exact Or.inr ⟨by decide, _, C0.2.2.2.2.1 _ wc_L_15, nc.2.2⟩
        · refine j_widen (k := 8) (n := 300) (Nat.le_of_eq (Nat.zero_add _)) (Nat.le_of_eq (Nat.zero_add _)) ?_
          refine j_astore C0 dL_table_21 (Nat.le_of_ble_eq_true rfl) rfl ?_
          refine j_iconst C0 dL_table_23 (v := 3) rfl ?_
          rw [e2]
          exact j_iret C0 rfl dL_table_24 (fun H h => ⟨h.1, w, fun z => absurd z (by decide), h.2⟩)
  · have c0 : cc = 0 := by
      rcases hz with hz | hz
      · exact hz.2
      · rw [k0] at hz
        simp at hz
    refine j_widen (k := 8) (n := 300) (Nat.le_of_eq (Nat.zero_add _)) (Nat.le_of_eq (Nat.zero_add _)) ?_
    rw [c0]
    refine j_i2l C0 dL_table_8 (v := (vX6_table F G N Q a b).toInt64) rfl ?_
    refine j_lastO C0 hAo (Ω1 := fun H => CA D Y (fun q => A q ∧ q ≠ o) tE ad F (hu G 0 (sX6_table F G N Q a b)) N Q H) dL_table_9 (fun H H' h h1 h2 => CA.keep h (fun q _ z => h2 q z.2)) ?_
    refine j_goto C0 25 dL_table_10 (by decide) ?_
    refine j_iconst C0 dL_table_25 (v := 0) rfl ?_
    exact j_iret C0 rfl dL_table_26 (fun H h => ⟨h.1, _, fun _ => rfl, h.2⟩)
theorem kw_wind {l : Launch} (hsl : l.stackTraces = false) {D : va_G} {Y : Nat → ClassId} {A : Nat → Prop} {E : State → Prop} {tE mi : Nat} (hE : ∀ U, E U → EL A tE mi U) (ad : Nat → Nat) (F : Nat → Int32) (G : Nat → Nat → Int32) (N : Nat → Nat) (Q : Nat → Nat → Nat) (a : Int32) (b : Int32) (c : Int32) (hnow : ct (F 0) 3000) (o : Nat) (hAo : A o) (w : Int64) (cc : Int32) (hz : (eX6_wind F G N Q a b c = 0 ∧ cc = 0) ∨ (eX6_wind F G N Q a b c, cc) ∈ ([(2, 1)] : List (Nat × Int32))) :
    KMW l yL_wind cL_wind [(0, 12, 15, 15)] 6 (some .int) D Y A E 15 940 8 300 [.ref (ad 0), .int a, .int b, .int c, .ref o] (fun H => CA D Y (fun q => A q ∧ q ≠ o) tE ad F G N Q H ∧ OT D Y o w H) (some (.int cc)) (fun H => CA D Y (fun q => A q ∧ q ≠ o) tE ad F (hu G 1 (sX6_wind F G N Q a b c)) N Q H ∧ ∃ w', (cc = 0 → w' = (vX6_wind F G N Q a b c).toInt64) ∧ OT D Y o w' H) := by
  have hX : XM l yX6_wind cX6_wind 5 (some .int) D Y A E 14 900 8 300 [.ref (ad 0), .int a, .int b, .int c] (fun H => CA D Y (fun q => A q ∧ q ≠ o) tE ad F G N Q H ∧ OT D Y o w H) (some (.int (vX6_wind F G N Q a b c))) (eX6_wind F G N Q a b c) (fun H => CA D Y (fun q => A q ∧ q ≠ o) tE ad F (hu G 1 (sX6_wind F G N Q a b c)) N Q H ∧ OT D Y o w H) :=
    (k_X6_wind hsl (A := fun q => A q ∧ q ≠ o) (E := EC (fun q => A q ∧ q ≠ o) tE mi) (fun U h => h) ad F G N Q a b c hnow).sub (fun q h => h.1) (fun U h => (hE U h).1.narrow (fun q z => z.1)) (EC.closed _ tE mi) (fun H h => ⟨h.1, fun q h1 h2 => ⟨h2, fun z => by have := h.2.lt; omega⟩⟩) (fun H H' h h' h1 h2 => ⟨h', h.2.keep (h2 o h.2.lt (fun z => z.2 rfl))⟩)
  generalize eX6_wind F G N Q a b c = k at hX hz
  refine KMW_of RL [(0, .ref (ad 0)), (1, .int a), (2, .int b), (3, .int c), (4, .ref o)] rfl (by decide) hsl (Nat.le_of_ble_eq_true rfl) rfl (lok_of rfl rfl) ?_
  intro p e s m args below meth cd C0 hexc
  have nc := (hE s C0.2.2.2.2.2.2.2.1.2.2.1).2
  have xb := (hE s C0.2.2.2.2.2.2.2.1.2.2.1).1.2.2.2.2.1
  refine j_aload C0 dL_wind_0 rfl ?_
  refine j_iconst C0 dL_wind_2 (v := 0) rfl ?_
  refine j_aload_n C0 dL_wind_3 rfl ?_
  refine j_iload_n C0 dL_wind_4 rfl ?_
  refine j_iload_n C0 dL_wind_5 rfl ?_
  refine j_iload_n C0 dL_wind_6 rfl ?_
  refine j_xcatchV C0 (As := [.int a, .int b, .int c]) (rest := [.int 0, .ref o]) hX mv_X6_wind wm_L_19 (fun H h => ?_) rfl rfl ⟨Nat.le_of_ble_eq_true rfl, Nat.le_of_ble_eq_true rfl⟩ (Nat.le_of_ble_eq_true rfl) ⟨Nat.le_of_eq (Nat.zero_add _), Nat.le_of_eq (Nat.zero_add _)⟩ dL_wind_7 (fun k0 => ?_) (fun k0 => ?_)
  · obtain ⟨sa, ma, h3⟩ := h.1.re (A' := A) (fun q _ z => z.1)
    exact c_recv C0 (ci := 9) rfl 0 (fun cel h => ⟨_, ci_0 h⟩) H h3
  · rcases hz with hz | hz
    · exact absurd hz.1 k0
    · have hz2 : (k = 2 ∧ cc = 1) := by simpa using hz
      obtain ⟨e1, e2⟩ := hz2
      rw [e1] at *
      refine ⟨[], [], (⟨0, 12, 15, 15⟩ : ExceptionTableEntry), "java/lang/IllegalArgumentException", hexc.trans rfl, fun z hz9 => ?_, by decide, by decide, C0.2.2.2.2.1 _ wc_L_15, va_Nw.use rfl (xb _ wk_IllegalArgumentException), fun q => ?_⟩
      · cases hz9
      · refine j_widen (k := 8) (n := 300) (Nat.le_of_eq (Nat.zero_add _)) (Nat.le_of_eq (Nat.zero_add _)) ?_
        refine j_astore C0 dL_wind_15 (Nat.le_of_ble_eq_true rfl) rfl ?_
        refine j_iconst C0 dL_wind_17 (v := 1) rfl ?_
        rw [e2]
        exact j_iret C0 rfl dL_wind_18 (fun H h => ⟨h.1, w, fun z => absurd z (by decide), h.2⟩)
  · have c0 : cc = 0 := by
      rcases hz with hz | hz
      · exact hz.2
      · rw [k0] at hz
        simp at hz
    refine j_widen (k := 8) (n := 300) (Nat.le_of_eq (Nat.zero_add _)) (Nat.le_of_eq (Nat.zero_add _)) ?_
    rw [c0]
    refine j_i2l C0 dL_wind_10 (v := (vX6_wind F G N Q a b c).toInt64) rfl ?_
    refine j_lastO C0 hAo (Ω1 := fun H => CA D Y (fun q => A q ∧ q ≠ o) tE ad F (hu G 1 (sX6_wind F G N Q a b c)) N Q H) dL_wind_11 (fun H H' h h1 h2 => CA.keep h (fun q _ z => h2 q z.2)) ?_
    refine j_goto C0 19 dL_wind_12 (by decide) ?_
    refine j_iconst C0 dL_wind_19 (v := 0) rfl ?_
    exact j_iret C0 rfl dL_wind_20 (fun H h => ⟨h.1, _, fun _ => rfl, h.2⟩)
theorem kw_depth {l : Launch} (hsl : l.stackTraces = false) {D : va_G} {Y : Nat → ClassId} {A : Nat → Prop} {E : State → Prop} {tE mi : Nat} (hE : ∀ U, E U → EL A tE mi U) (ad : Nat → Nat) (F : Nat → Int32) (G : Nat → Nat → Int32) (N : Nat → Nat) (Q : Nat → Nat → Nat) (a : Int32) (o : Nat) (hAo : A o) (w : Int64) (cc : Int32) (hz : (eX6_depth F G N Q a = 0 ∧ cc = 0) ∨ (eX6_depth F G N Q a, cc) ∈ ([(2, 1)] : List (Nat × Int32))) :
    KMW l yL_depth cL_depth [(0, 9, 12, 15)] 4 (some .int) D Y A E 15 940 8 300 [.ref (ad 0), .int a, .ref o] (fun H => CA D Y (fun q => A q ∧ q ≠ o) tE ad F G N Q H ∧ OT D Y o w H) (some (.int cc)) (fun H => CA D Y (fun q => A q ∧ q ≠ o) tE ad F G N Q H ∧ ∃ w', (cc = 0 → w' = (vX6_depth F G N Q a).toInt64) ∧ OT D Y o w' H) := by
  have hX : XM l yX6_depth cX6_depth 2 (some .int) D Y A E 14 900 8 300 [.ref (ad 0), .int a] (fun H => CA D Y (fun q => A q ∧ q ≠ o) tE ad F G N Q H ∧ OT D Y o w H) (some (.int (vX6_depth F G N Q a))) (eX6_depth F G N Q a) (fun H => CA D Y (fun q => A q ∧ q ≠ o) tE ad F G N Q H ∧ OT D Y o w H) :=
    (k_X6_depth hsl (A := fun q => A q ∧ q ≠ o) (E := EC (fun q => A q ∧ q ≠ o) tE mi) (fun U h => h) ad F G N Q a).sub (fun q h => h.1) (fun U h => (hE U h).1.narrow (fun q z => z.1)) (EC.closed _ tE mi) (fun H h => ⟨h.1, fun q h1 h2 => ⟨h2, fun z => by have := h.2.lt; omega⟩⟩) (fun H H' h h' h1 h2 => ⟨h', h.2.keep (h2 o h.2.lt (fun z => z.2 rfl))⟩)
  generalize eX6_depth F G N Q a = k at hX hz
  refine KMW_of RL [(0, .ref (ad 0)), (1, .int a), (2, .ref o)] rfl (by decide) hsl (Nat.le_of_ble_eq_true rfl) rfl (lok_of rfl rfl) ?_
  intro p e s m args below meth cd C0 hexc
  have nc := (hE s C0.2.2.2.2.2.2.2.1.2.2.1).2
  have xb := (hE s C0.2.2.2.2.2.2.2.1.2.2.1).1.2.2.2.2.1
  refine j_aload_n C0 dL_depth_0 rfl ?_
  refine j_iconst C0 dL_depth_1 (v := 0) rfl ?_
  refine j_aload_n C0 dL_depth_2 rfl ?_
  refine j_iload_n C0 dL_depth_3 rfl ?_
  refine j_xcatchV C0 (As := [.int a]) (rest := [.int 0, .ref o]) hX mv_X6_depth wm_L_23 (fun H h => ?_) rfl rfl ⟨Nat.le_of_ble_eq_true rfl, Nat.le_of_ble_eq_true rfl⟩ (Nat.le_of_ble_eq_true rfl) ⟨Nat.le_of_eq (Nat.zero_add _), Nat.le_of_eq (Nat.zero_add _)⟩ dL_depth_4 (fun k0 => ?_) (fun k0 => ?_)
  · obtain ⟨sa, ma, h3⟩ := h.1.re (A' := A) (fun q _ z => z.1)
    exact c_recv C0 (ci := 9) rfl 0 (fun cel h => ⟨_, ci_0 h⟩) H h3
  · rcases hz with hz | hz
    · exact absurd hz.1 k0
    · have hz2 : (k = 2 ∧ cc = 1) := by simpa using hz
      obtain ⟨e1, e2⟩ := hz2
      rw [e1] at *
      refine ⟨[], [], (⟨0, 9, 12, 15⟩ : ExceptionTableEntry), "java/lang/IllegalArgumentException", hexc.trans rfl, fun z hz9 => ?_, by decide, by decide, C0.2.2.2.2.1 _ wc_L_15, va_Nw.use rfl (xb _ wk_IllegalArgumentException), fun q => ?_⟩
      · cases hz9
      · refine j_widen (k := 8) (n := 300) (Nat.le_of_eq (Nat.zero_add _)) (Nat.le_of_eq (Nat.zero_add _)) ?_
        refine j_astore_n C0 dL_depth_12 (Nat.le_of_ble_eq_true rfl) rfl ?_
        refine j_iconst C0 dL_depth_13 (v := 1) rfl ?_
        rw [e2]
        exact j_iret C0 rfl dL_depth_14 (fun H h => ⟨h.1, w, fun z => absurd z (by decide), h.2⟩)
  · have c0 : cc = 0 := by
      rcases hz with hz | hz
      · exact hz.2
      · rw [k0] at hz
        simp at hz
    refine j_widen (k := 8) (n := 300) (Nat.le_of_eq (Nat.zero_add _)) (Nat.le_of_eq (Nat.zero_add _)) ?_
    rw [c0]
    refine j_i2l C0 dL_depth_7 (v := (vX6_depth F G N Q a).toInt64) rfl ?_
    refine j_lastO C0 hAo (Ω1 := fun H => CA D Y (fun q => A q ∧ q ≠ o) tE ad F G N Q H) dL_depth_8 (fun H H' h h1 h2 => CA.keep h (fun q _ z => h2 q z.2)) ?_
    refine j_goto C0 15 dL_depth_9 (by decide) ?_
    refine j_iconst C0 dL_depth_15 (v := 0) rfl ?_
    exact j_iret C0 rfl dL_depth_16 (fun H h => ⟨h.1, _, fun _ => rfl, h.2⟩)
theorem kw_berth {l : Launch} (hsl : l.stackTraces = false) {D : va_G} {Y : Nat → ClassId} {A : Nat → Prop} {E : State → Prop} {tE mi : Nat} (hE : ∀ U, E U → EL A tE mi U) (ad : Nat → Nat) (F : Nat → Int32) (G : Nat → Nat → Int32) (N : Nat → Nat) (Q : Nat → Nat → Nat) (a : Int32) (b : Int32) (o : Nat) (hAo : A o) (w : Int64) (cc : Int32) (hz : (eX6_berth F G N Q a b = 0 ∧ cc = 0) ∨ (eX6_berth F G N Q a b, cc) ∈ ([(1, 1), (2, 2), (3, 3)] : List (Nat × Int32))) :
    KMW l yL_berth cL_berth [(0, 10, 13, 13), (0, 10, 17, 15), (0, 10, 21, 17)] 5 (some .int) D Y A E 15 940 8 300 [.ref (ad 0), .int a, .int b, .ref o] (fun H => CA D Y (fun q => A q ∧ q ≠ o) tE ad F G N Q H ∧ OT D Y o w H) (some (.int cc)) (fun H => CA D Y (fun q => A q ∧ q ≠ o) tE ad F (hu G 2 (sX6_berth F G N Q a b)) N Q H ∧ ∃ w', (cc = 0 → w' = (vX6_berth F G N Q a b).toInt64) ∧ OT D Y o w' H) := by
  have hX : XM l yX6_berth cX6_berth 4 (some .int) D Y A E 14 900 8 300 [.ref (ad 0), .int a, .int b] (fun H => CA D Y (fun q => A q ∧ q ≠ o) tE ad F G N Q H ∧ OT D Y o w H) (some (.int (vX6_berth F G N Q a b))) (eX6_berth F G N Q a b) (fun H => CA D Y (fun q => A q ∧ q ≠ o) tE ad F (hu G 2 (sX6_berth F G N Q a b)) N Q H ∧ OT D Y o w H) :=
    (k_X6_berth hsl (A := fun q => A q ∧ q ≠ o) (E := EC (fun q => A q ∧ q ≠ o) tE mi) (fun U h => h) ad F G N Q a b).sub (fun q h => h.1) (fun U h => (hE U h).1.narrow (fun q z => z.1)) (EC.closed _ tE mi) (fun H h => ⟨h.1, fun q h1 h2 => ⟨h2, fun z => by have := h.2.lt; omega⟩⟩) (fun H H' h h' h1 h2 => ⟨h', h.2.keep (h2 o h.2.lt (fun z => z.2 rfl))⟩)
  generalize eX6_berth F G N Q a b = k at hX hz
  refine KMW_of RL [(0, .ref (ad 0)), (1, .int a), (2, .int b), (3, .ref o)] rfl (by decide) hsl (Nat.le_of_ble_eq_true rfl) rfl (lok_of rfl rfl) ?_
  intro p e s m args below meth cd C0 hexc
  have nc := (hE s C0.2.2.2.2.2.2.2.1.2.2.1).2
  have xb := (hE s C0.2.2.2.2.2.2.2.1.2.2.1).1.2.2.2.2.1
  refine j_aload_n C0 dL_berth_0 rfl ?_
  refine j_iconst C0 dL_berth_1 (v := 0) rfl ?_
  refine j_aload_n C0 dL_berth_2 rfl ?_
  refine j_iload_n C0 dL_berth_3 rfl ?_
  refine j_iload_n C0 dL_berth_4 rfl ?_
  refine j_xcatchV C0 (As := [.int a, .int b]) (rest := [.int 0, .ref o]) hX mv_X6_berth wm_L_27 (fun H h => ?_) rfl rfl ⟨Nat.le_of_ble_eq_true rfl, Nat.le_of_ble_eq_true rfl⟩ (Nat.le_of_ble_eq_true rfl) ⟨Nat.le_of_eq (Nat.zero_add _), Nat.le_of_eq (Nat.zero_add _)⟩ dL_berth_5 (fun k0 => ?_) (fun k0 => ?_)
  · obtain ⟨sa, ma, h3⟩ := h.1.re (A' := A) (fun q _ z => z.1)
    exact c_recv C0 (ci := 9) rfl 0 (fun cel h => ⟨_, ci_0 h⟩) H h3
  · rcases hz with hz | hz
    · exact absurd hz.1 k0
    · have hz2 : (k = 1 ∧ cc = 1) ∨ (k = 2 ∧ cc = 2) ∨ (k = 3 ∧ cc = 3) := by simpa using hz
      rcases hz2 with ⟨e1, e2⟩ | ⟨e1, e2⟩ | ⟨e1, e2⟩
      · rw [e1] at *
        refine ⟨[], [(⟨0, 10, 17, 15⟩ : ExceptionTableEntry), (⟨0, 10, 21, 17⟩ : ExceptionTableEntry)], (⟨0, 10, 13, 13⟩ : ExceptionTableEntry), "java/lang/IndexOutOfBoundsException", hexc.trans rfl, fun z hz9 => ?_, by decide, by decide, C0.2.2.2.2.1 _ wc_L_13, va_Nw.use rfl (xb _ wk_IndexOutOfBoundsException), fun q => ?_⟩
        · cases hz9
        · refine j_widen (k := 8) (n := 300) (Nat.le_of_eq (Nat.zero_add _)) (Nat.le_of_eq (Nat.zero_add _)) ?_
          refine j_astore C0 dL_berth_13 (Nat.le_of_ble_eq_true rfl) rfl ?_
          refine j_iconst C0 dL_berth_15 (v := 1) rfl ?_
          rw [e2]
          exact j_iret C0 rfl dL_berth_16 (fun H h => ⟨h.1, w, fun z => absurd z (by decide), h.2⟩)
      · rw [e1] at *
        refine ⟨[(⟨0, 10, 13, 13⟩ : ExceptionTableEntry)], [(⟨0, 10, 21, 17⟩ : ExceptionTableEntry)], (⟨0, 10, 17, 15⟩ : ExceptionTableEntry), "java/lang/IllegalArgumentException", hexc.trans rfl, fun z hz9 => ?_, by decide, by decide, C0.2.2.2.2.1 _ wc_L_15, va_Nw.use rfl (xb _ wk_IllegalArgumentException), fun q => ?_⟩
        · have hz8 : z = (⟨0, 10, 13, 13⟩ : ExceptionTableEntry) := by simpa using hz9
          rw [hz8]
          exact Or.inr ⟨by decide, _, C0.2.2.2.2.1 _ wc_L_13, nc.1⟩
        · refine j_widen (k := 8) (n := 300) (Nat.le_of_eq (Nat.zero_add _)) (Nat.le_of_eq (Nat.zero_add _)) ?_
          refine j_astore C0 dL_berth_17 (Nat.le_of_ble_eq_true rfl) rfl ?_
          refine j_iconst C0 dL_berth_19 (v := 2) rfl ?_
          rw [e2]
          exact j_iret C0 rfl dL_berth_20 (fun H h => ⟨h.1, w, fun z => absurd z (by decide), h.2⟩)
      · rw [e1] at *
        refine ⟨[(⟨0, 10, 13, 13⟩ : ExceptionTableEntry), (⟨0, 10, 17, 15⟩ : ExceptionTableEntry)], [], (⟨0, 10, 21, 17⟩ : ExceptionTableEntry), "java/lang/IllegalStateException", hexc.trans rfl, fun z hz9 => ?_, by decide, by decide, C0.2.2.2.2.1 _ wc_L_17, va_Nw.use rfl (xb _ wk_IllegalStateException), fun q => ?_⟩
        · have hz8 : z = (⟨0, 10, 13, 13⟩ : ExceptionTableEntry) ∨ z = (⟨0, 10, 17, 15⟩ : ExceptionTableEntry) := by simpa using hz9
          rcases hz8 with hz8 | hz8
          · rw [hz8]
            exact Or.inr ⟨by decide, _, C0.2.2.2.2.1 _ wc_L_13, nc.2.1⟩
          · rw [hz8]
            exact Or.inr ⟨by decide, _, C0.2.2.2.2.1 _ wc_L_15, nc.2.2⟩
        · refine j_widen (k := 8) (n := 300) (Nat.le_of_eq (Nat.zero_add _)) (Nat.le_of_eq (Nat.zero_add _)) ?_
          refine j_astore C0 dL_berth_21 (Nat.le_of_ble_eq_true rfl) rfl ?_
          refine j_iconst C0 dL_berth_23 (v := 3) rfl ?_
          rw [e2]
          exact j_iret C0 rfl dL_berth_24 (fun H h => ⟨h.1, w, fun z => absurd z (by decide), h.2⟩)
  · have c0 : cc = 0 := by
      rcases hz with hz | hz
      · exact hz.2
      · rw [k0] at hz
        simp at hz
    refine j_widen (k := 8) (n := 300) (Nat.le_of_eq (Nat.zero_add _)) (Nat.le_of_eq (Nat.zero_add _)) ?_
    rw [c0]
    refine j_i2l C0 dL_berth_8 (v := (vX6_berth F G N Q a b).toInt64) rfl ?_
    refine j_lastO C0 hAo (Ω1 := fun H => CA D Y (fun q => A q ∧ q ≠ o) tE ad F (hu G 2 (sX6_berth F G N Q a b)) N Q H) dL_berth_9 (fun H H' h h1 h2 => CA.keep h (fun q _ z => h2 q z.2)) ?_
    refine j_goto C0 25 dL_berth_10 (by decide) ?_
    refine j_iconst C0 dL_berth_25 (v := 0) rfl ?_
    exact j_iret C0 rfl dL_berth_26 (fun H h => ⟨h.1, _, fun _ => rfl, h.2⟩)
theorem kw_ship {l : Launch} (hsl : l.stackTraces = false) {D : va_G} {Y : Nat → ClassId} {A : Nat → Prop} {E : State → Prop} {tE mi : Nat} (hE : ∀ U, E U → EL A tE mi U) (ad : Nat → Nat) (F : Nat → Int32) (G : Nat → Nat → Int32) (N : Nat → Nat) (Q : Nat → Nat → Nat) (a : Int32) (b : Int32) (c : Int32) (d : Int32) (o : Nat) (hAo : A o) (w : Int64) (cc : Int32) (hz : (eX6_ship F G N Q a b c d = 0 ∧ cc = 0) ∨ (eX6_ship F G N Q a b c d, cc) ∈ ([(1, 1), (2, 2), (3, 3)] : List (Nat × Int32))) :
    KMW l yL_ship cL_ship [(0, 14, 17, 13), (0, 14, 21, 15), (0, 14, 25, 17)] 7 (some .int) D Y A E 15 940 8 300 [.ref (ad 0), .int a, .int b, .int c, .int d, .ref o] (fun H => CA D Y (fun q => A q ∧ q ≠ o) tE ad F G N Q H ∧ OT D Y o w H) (some (.int cc)) (fun H => CA D Y (fun q => A q ∧ q ≠ o) tE ad F (hu (hu (hu (hu (hu (hu (hu (hu (hu (hu (hu G 5 (sX6_ship F G N Q a b c d).2.1) 6 (sX6_ship F G N Q a b c d).2.2.1) 7 (sX6_ship F G N Q a b c d).2.2.2.1) 8 (sX6_ship F G N Q a b c d).2.2.2.2.1) 9 (sX6_ship F G N Q a b c d).2.2.2.2.2.1) 10 (sX6_ship F G N Q a b c d).2.2.2.2.2.2.1) 11 (sX6_ship F G N Q a b c d).2.2.2.2.2.2.2.1) 12 (sX6_ship F G N Q a b c d).2.2.2.2.2.2.2.2.1) 13 (sX6_ship F G N Q a b c d).2.2.2.2.2.2.2.2.2.1) 14 (sX6_ship F G N Q a b c d).2.2.2.2.2.2.2.2.2.2.1) 15 (sX6_ship F G N Q a b c d).2.2.2.2.2.2.2.2.2.2.2) (hu N 0 (sX6_ship F G N Q a b c d).1) Q H ∧ ∃ w', (cc = 0 → w' = (vX6_ship F G N Q a b c d).toInt64) ∧ OT D Y o w' H) := by
  have hX : XM l yX6_ship cX6_ship 6 (some .int) D Y A E 14 900 8 300 [.ref (ad 0), .int a, .int b, .int c, .int d] (fun H => CA D Y (fun q => A q ∧ q ≠ o) tE ad F G N Q H ∧ OT D Y o w H) (some (.int (vX6_ship F G N Q a b c d))) (eX6_ship F G N Q a b c d) (fun H => CA D Y (fun q => A q ∧ q ≠ o) tE ad F (hu (hu (hu (hu (hu (hu (hu (hu (hu (hu (hu G 5 (sX6_ship F G N Q a b c d).2.1) 6 (sX6_ship F G N Q a b c d).2.2.1) 7 (sX6_ship F G N Q a b c d).2.2.2.1) 8 (sX6_ship F G N Q a b c d).2.2.2.2.1) 9 (sX6_ship F G N Q a b c d).2.2.2.2.2.1) 10 (sX6_ship F G N Q a b c d).2.2.2.2.2.2.1) 11 (sX6_ship F G N Q a b c d).2.2.2.2.2.2.2.1) 12 (sX6_ship F G N Q a b c d).2.2.2.2.2.2.2.2.1) 13 (sX6_ship F G N Q a b c d).2.2.2.2.2.2.2.2.2.1) 14 (sX6_ship F G N Q a b c d).2.2.2.2.2.2.2.2.2.2.1) 15 (sX6_ship F G N Q a b c d).2.2.2.2.2.2.2.2.2.2.2) (hu N 0 (sX6_ship F G N Q a b c d).1) Q H ∧ OT D Y o w H) :=
    (k_X6_ship hsl (A := fun q => A q ∧ q ≠ o) (E := EC (fun q => A q ∧ q ≠ o) tE mi) (fun U h => h) ad F G N Q a b c d).sub (fun q h => h.1) (fun U h => (hE U h).1.narrow (fun q z => z.1)) (EC.closed _ tE mi) (fun H h => ⟨h.1, fun q h1 h2 => ⟨h2, fun z => by have := h.2.lt; omega⟩⟩) (fun H H' h h' h1 h2 => ⟨h', h.2.keep (h2 o h.2.lt (fun z => z.2 rfl))⟩)
  generalize eX6_ship F G N Q a b c d = k at hX hz
  refine KMW_of RL [(0, .ref (ad 0)), (1, .int a), (2, .int b), (3, .int c), (4, .int d), (5, .ref o)] rfl (by decide) hsl (Nat.le_of_ble_eq_true rfl) rfl (lok_of rfl rfl) ?_
  intro p e s m args below meth cd C0 hexc
  have nc := (hE s C0.2.2.2.2.2.2.2.1.2.2.1).2
  have xb := (hE s C0.2.2.2.2.2.2.2.1.2.2.1).1.2.2.2.2.1
  refine j_aload C0 dL_ship_0 rfl ?_
  refine j_iconst C0 dL_ship_2 (v := 0) rfl ?_
  refine j_aload_n C0 dL_ship_3 rfl ?_
  refine j_iload_n C0 dL_ship_4 rfl ?_
  refine j_iload_n C0 dL_ship_5 rfl ?_
  refine j_iload_n C0 dL_ship_6 rfl ?_
  refine j_iload C0 dL_ship_7 rfl ?_
  refine j_xcatchV C0 (As := [.int a, .int b, .int c, .int d]) (rest := [.int 0, .ref o]) hX mv_X6_ship wm_L_30 (fun H h => ?_) rfl rfl ⟨Nat.le_of_ble_eq_true rfl, Nat.le_of_ble_eq_true rfl⟩ (Nat.le_of_ble_eq_true rfl) ⟨Nat.le_of_eq (Nat.zero_add _), Nat.le_of_eq (Nat.zero_add _)⟩ dL_ship_9 (fun k0 => ?_) (fun k0 => ?_)
  · obtain ⟨sa, ma, h3⟩ := h.1.re (A' := A) (fun q _ z => z.1)
    exact c_recv C0 (ci := 9) rfl 0 (fun cel h => ⟨_, ci_0 h⟩) H h3
  · rcases hz with hz | hz
    · exact absurd hz.1 k0
    · have hz2 : (k = 1 ∧ cc = 1) ∨ (k = 2 ∧ cc = 2) ∨ (k = 3 ∧ cc = 3) := by simpa using hz
      rcases hz2 with ⟨e1, e2⟩ | ⟨e1, e2⟩ | ⟨e1, e2⟩
      · rw [e1] at *
        refine ⟨[], [(⟨0, 14, 21, 15⟩ : ExceptionTableEntry), (⟨0, 14, 25, 17⟩ : ExceptionTableEntry)], (⟨0, 14, 17, 13⟩ : ExceptionTableEntry), "java/lang/IndexOutOfBoundsException", hexc.trans rfl, fun z hz9 => ?_, by decide, by decide, C0.2.2.2.2.1 _ wc_L_13, va_Nw.use rfl (xb _ wk_IndexOutOfBoundsException), fun q => ?_⟩
        · cases hz9
        · refine j_widen (k := 8) (n := 300) (Nat.le_of_eq (Nat.zero_add _)) (Nat.le_of_eq (Nat.zero_add _)) ?_
          refine j_astore C0 dL_ship_17 (Nat.le_of_ble_eq_true rfl) rfl ?_
          refine j_iconst C0 dL_ship_19 (v := 1) rfl ?_
          rw [e2]
          exact j_iret C0 rfl dL_ship_20 (fun H h => ⟨h.1, w, fun z => absurd z (by decide), h.2⟩)
      · rw [e1] at *
        refine ⟨[(⟨0, 14, 17, 13⟩ : ExceptionTableEntry)], [(⟨0, 14, 25, 17⟩ : ExceptionTableEntry)], (⟨0, 14, 21, 15⟩ : ExceptionTableEntry), "java/lang/IllegalArgumentException", hexc.trans rfl, fun z hz9 => ?_, by decide, by decide, C0.2.2.2.2.1 _ wc_L_15, va_Nw.use rfl (xb _ wk_IllegalArgumentException), fun q => ?_⟩
        · have hz8 : z = (⟨0, 14, 17, 13⟩ : ExceptionTableEntry) := by simpa using hz9
          rw [hz8]
          exact Or.inr ⟨by decide, _, C0.2.2.2.2.1 _ wc_L_13, nc.1⟩
        · refine j_widen (k := 8) (n := 300) (Nat.le_of_eq (Nat.zero_add _)) (Nat.le_of_eq (Nat.zero_add _)) ?_
          refine j_astore C0 dL_ship_21 (Nat.le_of_ble_eq_true rfl) rfl ?_
          refine j_iconst C0 dL_ship_23 (v := 2) rfl ?_
          rw [e2]
          exact j_iret C0 rfl dL_ship_24 (fun H h => ⟨h.1, w, fun z => absurd z (by decide), h.2⟩)
      · rw [e1] at *
        refine ⟨[(⟨0, 14, 17, 13⟩ : ExceptionTableEntry), (⟨0, 14, 21, 15⟩ : ExceptionTableEntry)], [], (⟨0, 14, 25, 17⟩ : ExceptionTableEntry), "java/lang/IllegalStateException", hexc.trans rfl, fun z hz9 => ?_, by decide, by decide, C0.2.2.2.2.1 _ wc_L_17, va_Nw.use rfl (xb _ wk_IllegalStateException), fun q => ?_⟩
        · have hz8 : z = (⟨0, 14, 17, 13⟩ : ExceptionTableEntry) ∨ z = (⟨0, 14, 21, 15⟩ : ExceptionTableEntry) := by simpa using hz9
          rcases hz8 with hz8 | hz8
          · rw [hz8]
            exact Or.inr ⟨by decide, _, C0.2.2.2.2.1 _ wc_L_13, nc.2.1⟩
          · rw [hz8]
            exact Or.inr ⟨by decide, _, C0.2.2.2.2.1 _ wc_L_15, nc.2.2⟩
        · refine j_widen (k := 8) (n := 300) (Nat.le_of_eq (Nat.zero_add _)) (Nat.le_of_eq (Nat.zero_add _)) ?_
          refine j_astore C0 dL_ship_25 (Nat.le_of_ble_eq_true rfl) rfl ?_
          refine j_iconst C0 dL_ship_27 (v := 3) rfl ?_
          rw [e2]
          exact j_iret C0 rfl dL_ship_28 (fun H h => ⟨h.1, w, fun z => absurd z (by decide), h.2⟩)
  · have c0 : cc = 0 := by
      rcases hz with hz | hz
      · exact hz.2
      · rw [k0] at hz
        simp at hz
    refine j_widen (k := 8) (n := 300) (Nat.le_of_eq (Nat.zero_add _)) (Nat.le_of_eq (Nat.zero_add _)) ?_
    rw [c0]
    refine j_i2l C0 dL_ship_12 (v := (vX6_ship F G N Q a b c d).toInt64) rfl ?_
    refine j_lastO C0 hAo (Ω1 := fun H => CA D Y (fun q => A q ∧ q ≠ o) tE ad F (hu (hu (hu (hu (hu (hu (hu (hu (hu (hu (hu G 5 (sX6_ship F G N Q a b c d).2.1) 6 (sX6_ship F G N Q a b c d).2.2.1) 7 (sX6_ship F G N Q a b c d).2.2.2.1) 8 (sX6_ship F G N Q a b c d).2.2.2.2.1) 9 (sX6_ship F G N Q a b c d).2.2.2.2.2.1) 10 (sX6_ship F G N Q a b c d).2.2.2.2.2.2.1) 11 (sX6_ship F G N Q a b c d).2.2.2.2.2.2.2.1) 12 (sX6_ship F G N Q a b c d).2.2.2.2.2.2.2.2.1) 13 (sX6_ship F G N Q a b c d).2.2.2.2.2.2.2.2.2.1) 14 (sX6_ship F G N Q a b c d).2.2.2.2.2.2.2.2.2.2.1) 15 (sX6_ship F G N Q a b c d).2.2.2.2.2.2.2.2.2.2.2) (hu N 0 (sX6_ship F G N Q a b c d).1) Q H) dL_ship_13 (fun H H' h h1 h2 => CA.keep h (fun q _ z => h2 q z.2)) ?_
    refine j_goto C0 29 dL_ship_14 (by decide) ?_
    refine j_iconst C0 dL_ship_29 (v := 0) rfl ?_
    exact j_iret C0 rfl dL_ship_30 (fun H h => ⟨h.1, _, fun _ => rfl, h.2⟩)
theorem kw_order {l : Launch} (hsl : l.stackTraces = false) {D : va_G} {Y : Nat → ClassId} {A : Nat → Prop} {E : State → Prop} {tE mi : Nat} (hE : ∀ U, E U → EL A tE mi U) (ad : Nat → Nat) (F : Nat → Int32) (G : Nat → Nat → Int32) (N : Nat → Nat) (Q : Nat → Nat → Nat) (a : Int32) (b : Int32) (h9 : N 2 < 100) (o : Nat) (hAo : A o) (w : Int64) (cc : Int32) (hz : (eX6_order F G N Q a b = 0 ∧ cc = 0) ∨ (eX6_order F G N Q a b, cc) ∈ ([(1, 1), (2, 2), (3, 3)] : List (Nat × Int32))) :
    KMW l yL_order cL_order [(0, 10, 13, 13), (0, 10, 17, 15), (0, 10, 21, 17)] 5 (some .int) D Y A E 15 940 8 300 [.ref (ad 0), .int a, .int b, .ref o] (fun H => CA D Y (fun q => A q ∧ q ≠ o) tE ad F G N Q H ∧ OT D Y o w H) (some (.int cc)) (fun H => CA D Y (fun q => A q ∧ q ≠ o) tE ad F (hu G 12 (sX6_order F G N Q a b).2.2) (hu N 2 (sX6_order F G N Q a b).1) (hu Q 0 (sX6_order F G N Q a b).2.1) H ∧ ∃ w', (cc = 0 → w' = (vX6_order F G N Q a b).toInt64) ∧ OT D Y o w' H) := by
  have hX : XM l yX6_order cX6_order 4 (some .int) D Y A E 14 900 8 300 [.ref (ad 0), .int a, .int b] (fun H => CA D Y (fun q => A q ∧ q ≠ o) tE ad F G N Q H ∧ OT D Y o w H) (some (.int (vX6_order F G N Q a b))) (eX6_order F G N Q a b) (fun H => CA D Y (fun q => A q ∧ q ≠ o) tE ad F (hu G 12 (sX6_order F G N Q a b).2.2) (hu N 2 (sX6_order F G N Q a b).1) (hu Q 0 (sX6_order F G N Q a b).2.1) H ∧ OT D Y o w H) :=
    (k_X6_order hsl (A := fun q => A q ∧ q ≠ o) (E := EC (fun q => A q ∧ q ≠ o) tE mi) (fun U h => h) ad F G N Q a b h9).sub (fun q h => h.1) (fun U h => (hE U h).1.narrow (fun q z => z.1)) (EC.closed _ tE mi) (fun H h => ⟨h.1, fun q h1 h2 => ⟨h2, fun z => by have := h.2.lt; omega⟩⟩) (fun H H' h h' h1 h2 => ⟨h', h.2.keep (h2 o h.2.lt (fun z => z.2 rfl))⟩)
  generalize eX6_order F G N Q a b = k at hX hz
  refine KMW_of RL [(0, .ref (ad 0)), (1, .int a), (2, .int b), (3, .ref o)] rfl (by decide) hsl (Nat.le_of_ble_eq_true rfl) rfl (lok_of rfl rfl) ?_
  intro p e s m args below meth cd C0 hexc
  have nc := (hE s C0.2.2.2.2.2.2.2.1.2.2.1).2
  have xb := (hE s C0.2.2.2.2.2.2.2.1.2.2.1).1.2.2.2.2.1
  refine j_aload_n C0 dL_order_0 rfl ?_
  refine j_iconst C0 dL_order_1 (v := 0) rfl ?_
  refine j_aload_n C0 dL_order_2 rfl ?_
  refine j_iload_n C0 dL_order_3 rfl ?_
  refine j_iload_n C0 dL_order_4 rfl ?_
  refine j_xcatchV C0 (As := [.int a, .int b]) (rest := [.int 0, .ref o]) hX mv_X6_order wm_L_34 (fun H h => ?_) rfl rfl ⟨Nat.le_of_ble_eq_true rfl, Nat.le_of_ble_eq_true rfl⟩ (Nat.le_of_ble_eq_true rfl) ⟨Nat.le_of_eq (Nat.zero_add _), Nat.le_of_eq (Nat.zero_add _)⟩ dL_order_5 (fun k0 => ?_) (fun k0 => ?_)
  · obtain ⟨sa, ma, h3⟩ := h.1.re (A' := A) (fun q _ z => z.1)
    exact c_recv C0 (ci := 9) rfl 0 (fun cel h => ⟨_, ci_0 h⟩) H h3
  · rcases hz with hz | hz
    · exact absurd hz.1 k0
    · have hz2 : (k = 1 ∧ cc = 1) ∨ (k = 2 ∧ cc = 2) ∨ (k = 3 ∧ cc = 3) := by simpa using hz
      rcases hz2 with ⟨e1, e2⟩ | ⟨e1, e2⟩ | ⟨e1, e2⟩
      · rw [e1] at *
        refine ⟨[], [(⟨0, 10, 17, 15⟩ : ExceptionTableEntry), (⟨0, 10, 21, 17⟩ : ExceptionTableEntry)], (⟨0, 10, 13, 13⟩ : ExceptionTableEntry), "java/lang/IndexOutOfBoundsException", hexc.trans rfl, fun z hz9 => ?_, by decide, by decide, C0.2.2.2.2.1 _ wc_L_13, va_Nw.use rfl (xb _ wk_IndexOutOfBoundsException), fun q => ?_⟩
        · cases hz9
        · refine j_widen (k := 8) (n := 300) (Nat.le_of_eq (Nat.zero_add _)) (Nat.le_of_eq (Nat.zero_add _)) ?_
          refine j_astore C0 dL_order_13 (Nat.le_of_ble_eq_true rfl) rfl ?_
          refine j_iconst C0 dL_order_15 (v := 1) rfl ?_
          rw [e2]
          exact j_iret C0 rfl dL_order_16 (fun H h => ⟨h.1, w, fun z => absurd z (by decide), h.2⟩)
      · rw [e1] at *
        refine ⟨[(⟨0, 10, 13, 13⟩ : ExceptionTableEntry)], [(⟨0, 10, 21, 17⟩ : ExceptionTableEntry)], (⟨0, 10, 17, 15⟩ : ExceptionTableEntry), "java/lang/IllegalArgumentException", hexc.trans rfl, fun z hz9 => ?_, by decide, by decide, C0.2.2.2.2.1 _ wc_L_15, va_Nw.use rfl (xb _ wk_IllegalArgumentException), fun q => ?_⟩
        · have hz8 : z = (⟨0, 10, 13, 13⟩ : ExceptionTableEntry) := by simpa using hz9
          rw [hz8]
          exact Or.inr ⟨by decide, _, C0.2.2.2.2.1 _ wc_L_13, nc.1⟩
        · refine j_widen (k := 8) (n := 300) (Nat.le_of_eq (Nat.zero_add _)) (Nat.le_of_eq (Nat.zero_add _)) ?_
          refine j_astore C0 dL_order_17 (Nat.le_of_ble_eq_true rfl) rfl ?_
          refine j_iconst C0 dL_order_19 (v := 2) rfl ?_
          rw [e2]
          exact j_iret C0 rfl dL_order_20 (fun H h => ⟨h.1, w, fun z => absurd z (by decide), h.2⟩)
      · rw [e1] at *
        refine ⟨[(⟨0, 10, 13, 13⟩ : ExceptionTableEntry), (⟨0, 10, 17, 15⟩ : ExceptionTableEntry)], [], (⟨0, 10, 21, 17⟩ : ExceptionTableEntry), "java/lang/IllegalStateException", hexc.trans rfl, fun z hz9 => ?_, by decide, by decide, C0.2.2.2.2.1 _ wc_L_17, va_Nw.use rfl (xb _ wk_IllegalStateException), fun q => ?_⟩
        · have hz8 : z = (⟨0, 10, 13, 13⟩ : ExceptionTableEntry) ∨ z = (⟨0, 10, 17, 15⟩ : ExceptionTableEntry) := by simpa using hz9
          rcases hz8 with hz8 | hz8
          · rw [hz8]
            exact Or.inr ⟨by decide, _, C0.2.2.2.2.1 _ wc_L_13, nc.2.1⟩
          · rw [hz8]
            exact Or.inr ⟨by decide, _, C0.2.2.2.2.1 _ wc_L_15, nc.2.2⟩
        · refine j_widen (k := 8) (n := 300) (Nat.le_of_eq (Nat.zero_add _)) (Nat.le_of_eq (Nat.zero_add _)) ?_
          refine j_astore C0 dL_order_21 (Nat.le_of_ble_eq_true rfl) rfl ?_
          refine j_iconst C0 dL_order_23 (v := 3) rfl ?_
          rw [e2]
          exact j_iret C0 rfl dL_order_24 (fun H h => ⟨h.1, w, fun z => absurd z (by decide), h.2⟩)
  · have c0 : cc = 0 := by
      rcases hz with hz | hz
      · exact hz.2
      · rw [k0] at hz
        simp at hz
    refine j_widen (k := 8) (n := 300) (Nat.le_of_eq (Nat.zero_add _)) (Nat.le_of_eq (Nat.zero_add _)) ?_
    rw [c0]
    refine j_i2l C0 dL_order_8 (v := (vX6_order F G N Q a b).toInt64) rfl ?_
    refine j_lastO C0 hAo (Ω1 := fun H => CA D Y (fun q => A q ∧ q ≠ o) tE ad F (hu G 12 (sX6_order F G N Q a b).2.2) (hu N 2 (sX6_order F G N Q a b).1) (hu Q 0 (sX6_order F G N Q a b).2.1) H) dL_order_9 (fun H H' h h1 h2 => CA.keep h (fun q _ z => h2 q z.2)) ?_
    refine j_goto C0 25 dL_order_10 (by decide) ?_
    refine j_iconst C0 dL_order_25 (v := 0) rfl ?_
    exact j_iret C0 rfl dL_order_26 (fun H h => ⟨h.1, _, fun _ => rfl, h.2⟩)
theorem kw_cancel {l : Launch} (hsl : l.stackTraces = false) {D : va_G} {Y : Nat → ClassId} {A : Nat → Prop} {E : State → Prop} {tE mi : Nat} (hE : ∀ U, E U → EL A tE mi U) (ad : Nat → Nat) (F : Nat → Int32) (G : Nat → Nat → Int32) (N : Nat → Nat) (Q : Nat → Nat → Nat) (a : Int32) (o : Nat) (hAo : A o) (w : Int64) (cc : Int32) (hz : (eX6_cancel F G N Q a = 0 ∧ cc = 0) ∨ (eX6_cancel F G N Q a, cc) ∈ ([(1, 1), (3, 2)] : List (Nat × Int32))) :
    KMW l yL_cancel cL_cancel [(0, 9, 12, 13), (0, 9, 15, 17)] 4 (some .int) D Y A E 15 940 8 300 [.ref (ad 0), .int a, .ref o] (fun H => CA D Y (fun q => A q ∧ q ≠ o) tE ad F G N Q H ∧ OT D Y o w H) (some (.int cc)) (fun H => CA D Y (fun q => A q ∧ q ≠ o) tE ad F (hu G 12 (sX6_cancel F G N Q a).2.2) (hu N 2 (sX6_cancel F G N Q a).1) (hu Q 0 (sX6_cancel F G N Q a).2.1) H ∧ ∃ w', (cc = 0 → w' = (vX6_cancel F G N Q a).toInt64) ∧ OT D Y o w' H) := by
  have hX : XM l yX6_cancel cX6_cancel 4 (some .int) D Y A E 14 900 8 300 [.ref (ad 0), .int a] (fun H => CA D Y (fun q => A q ∧ q ≠ o) tE ad F G N Q H ∧ OT D Y o w H) (some (.int (vX6_cancel F G N Q a))) (eX6_cancel F G N Q a) (fun H => CA D Y (fun q => A q ∧ q ≠ o) tE ad F (hu G 12 (sX6_cancel F G N Q a).2.2) (hu N 2 (sX6_cancel F G N Q a).1) (hu Q 0 (sX6_cancel F G N Q a).2.1) H ∧ OT D Y o w H) :=
    (k_X6_cancel hsl (A := fun q => A q ∧ q ≠ o) (E := EC (fun q => A q ∧ q ≠ o) tE mi) (fun U h => h) ad F G N Q a).sub (fun q h => h.1) (fun U h => (hE U h).1.narrow (fun q z => z.1)) (EC.closed _ tE mi) (fun H h => ⟨h.1, fun q h1 h2 => ⟨h2, fun z => by have := h.2.lt; omega⟩⟩) (fun H H' h h' h1 h2 => ⟨h', h.2.keep (h2 o h.2.lt (fun z => z.2 rfl))⟩)
  generalize eX6_cancel F G N Q a = k at hX hz
  refine KMW_of RL [(0, .ref (ad 0)), (1, .int a), (2, .ref o)] rfl (by decide) hsl (Nat.le_of_ble_eq_true rfl) rfl (lok_of rfl rfl) ?_
  intro p e s m args below meth cd C0 hexc
  have nc := (hE s C0.2.2.2.2.2.2.2.1.2.2.1).2
  have xb := (hE s C0.2.2.2.2.2.2.2.1.2.2.1).1.2.2.2.2.1
  refine j_aload_n C0 dL_cancel_0 rfl ?_
  refine j_iconst C0 dL_cancel_1 (v := 0) rfl ?_
  refine j_aload_n C0 dL_cancel_2 rfl ?_
  refine j_iload_n C0 dL_cancel_3 rfl ?_
  refine j_xcatchV C0 (As := [.int a]) (rest := [.int 0, .ref o]) hX mv_X6_cancel wm_L_37 (fun H h => ?_) rfl rfl ⟨Nat.le_of_ble_eq_true rfl, Nat.le_of_ble_eq_true rfl⟩ (Nat.le_of_ble_eq_true rfl) ⟨Nat.le_of_eq (Nat.zero_add _), Nat.le_of_eq (Nat.zero_add _)⟩ dL_cancel_4 (fun k0 => ?_) (fun k0 => ?_)
  · obtain ⟨sa, ma, h3⟩ := h.1.re (A' := A) (fun q _ z => z.1)
    exact c_recv C0 (ci := 9) rfl 0 (fun cel h => ⟨_, ci_0 h⟩) H h3
  · rcases hz with hz | hz
    · exact absurd hz.1 k0
    · have hz2 : (k = 1 ∧ cc = 1) ∨ (k = 3 ∧ cc = 2) := by simpa using hz
      rcases hz2 with ⟨e1, e2⟩ | ⟨e1, e2⟩
      · rw [e1] at *
        refine ⟨[], [(⟨0, 9, 15, 17⟩ : ExceptionTableEntry)], (⟨0, 9, 12, 13⟩ : ExceptionTableEntry), "java/lang/IndexOutOfBoundsException", hexc.trans rfl, fun z hz9 => ?_, by decide, by decide, C0.2.2.2.2.1 _ wc_L_13, va_Nw.use rfl (xb _ wk_IndexOutOfBoundsException), fun q => ?_⟩
        · cases hz9
        · refine j_widen (k := 8) (n := 300) (Nat.le_of_eq (Nat.zero_add _)) (Nat.le_of_eq (Nat.zero_add _)) ?_
          refine j_astore_n C0 dL_cancel_12 (Nat.le_of_ble_eq_true rfl) rfl ?_
          refine j_iconst C0 dL_cancel_13 (v := 1) rfl ?_
          rw [e2]
          exact j_iret C0 rfl dL_cancel_14 (fun H h => ⟨h.1, w, fun z => absurd z (by decide), h.2⟩)
      · rw [e1] at *
        refine ⟨[(⟨0, 9, 12, 13⟩ : ExceptionTableEntry)], [], (⟨0, 9, 15, 17⟩ : ExceptionTableEntry), "java/lang/IllegalStateException", hexc.trans rfl, fun z hz9 => ?_, by decide, by decide, C0.2.2.2.2.1 _ wc_L_17, va_Nw.use rfl (xb _ wk_IllegalStateException), fun q => ?_⟩
        · have hz8 : z = (⟨0, 9, 12, 13⟩ : ExceptionTableEntry) := by simpa using hz9
          rw [hz8]
          exact Or.inr ⟨by decide, _, C0.2.2.2.2.1 _ wc_L_13, nc.2.1⟩
        · refine j_widen (k := 8) (n := 300) (Nat.le_of_eq (Nat.zero_add _)) (Nat.le_of_eq (Nat.zero_add _)) ?_
          refine j_astore_n C0 dL_cancel_15 (Nat.le_of_ble_eq_true rfl) rfl ?_
          refine j_iconst C0 dL_cancel_16 (v := 2) rfl ?_
          rw [e2]
          exact j_iret C0 rfl dL_cancel_17 (fun H h => ⟨h.1, w, fun z => absurd z (by decide), h.2⟩)
  · have c0 : cc = 0 := by
      rcases hz with hz | hz
      · exact hz.2
      · rw [k0] at hz
        simp at hz
    refine j_widen (k := 8) (n := 300) (Nat.le_of_eq (Nat.zero_add _)) (Nat.le_of_eq (Nat.zero_add _)) ?_
    rw [c0]
    refine j_i2l C0 dL_cancel_7 (v := (vX6_cancel F G N Q a).toInt64) rfl ?_
    refine j_lastO C0 hAo (Ω1 := fun H => CA D Y (fun q => A q ∧ q ≠ o) tE ad F (hu G 12 (sX6_cancel F G N Q a).2.2) (hu N 2 (sX6_cancel F G N Q a).1) (hu Q 0 (sX6_cancel F G N Q a).2.1) H) dL_cancel_8 (fun H H' h h1 h2 => CA.keep h (fun q _ z => h2 q z.2)) ?_
    refine j_goto C0 18 dL_cancel_9 (by decide) ?_
    refine j_iconst C0 dL_cancel_18 (v := 0) rfl ?_
    exact j_iret C0 rfl dL_cancel_19 (fun H h => ⟨h.1, _, fun _ => rfl, h.2⟩)
theorem kw_hasWater {l : Launch} (hsl : l.stackTraces = false) {D : va_G} {Y : Nat → ClassId} {A : Nat → Prop} {E : State → Prop} {tE mi : Nat} (hE : ∀ U, E U → EL A tE mi U) (ad : Nat → Nat) (F : Nat → Int32) (G : Nat → Nat → Int32) (N : Nat → Nat) (Q : Nat → Nat → Nat) (a : Int32) (b : Int32) (hb : ∀ i, i < N 0 → vp_in (G 9 i) 6) (o : Nat) (hAo : A o) (w : Int64) (cc : Int32) (hz : (eX6_hasWater F G N Q a b = 0 ∧ cc = 0) ∨ (eX6_hasWater F G N Q a b, cc) ∈ ([(1, 1), (2, 2)] : List (Nat × Int32))) :
    KMW l yL_hasWater cL_hasWater [(0, 17, 20, 13), (0, 17, 24, 15)] 5 (some .int) D Y A E 15 940 8 300 [.ref (ad 0), .int a, .int b, .ref o] (fun H => CA D Y (fun q => A q ∧ q ≠ o) tE ad F G N Q H ∧ OT D Y o w H) (some (.int cc)) (fun H => CA D Y (fun q => A q ∧ q ≠ o) tE ad F G N Q H ∧ ∃ w', (cc = 0 → w' = (if vX6_hasWater F G N Q a b = 0 then 0 else 1)) ∧ OT D Y o w' H) := by
  have hX : XM l yX6_hasWater cX6_hasWater 4 (some .boolean) D Y A E 14 900 8 300 [.ref (ad 0), .int a, .int b] (fun H => CA D Y (fun q => A q ∧ q ≠ o) tE ad F G N Q H ∧ OT D Y o w H) (some (.int (vX6_hasWater F G N Q a b))) (eX6_hasWater F G N Q a b) (fun H => CA D Y (fun q => A q ∧ q ≠ o) tE ad F G N Q H ∧ OT D Y o w H) :=
    (k_X6_hasWater hsl (A := fun q => A q ∧ q ≠ o) (E := EC (fun q => A q ∧ q ≠ o) tE mi) (fun U h => h) ad F G N Q a b hb).sub (fun q h => h.1) (fun U h => (hE U h).1.narrow (fun q z => z.1)) (EC.closed _ tE mi) (fun H h => ⟨h.1, fun q h1 h2 => ⟨h2, fun z => by have := h.2.lt; omega⟩⟩) (fun H H' h h' h1 h2 => ⟨h', h.2.keep (h2 o h.2.lt (fun z => z.2 rfl))⟩)
  generalize eX6_hasWater F G N Q a b = k at hX hz
  refine KMW_of RL [(0, .ref (ad 0)), (1, .int a), (2, .int b), (3, .ref o)] rfl (by decide) hsl (Nat.le_of_ble_eq_true rfl) rfl (lok_of rfl rfl) ?_
  intro p e s m args below meth cd C0 hexc
  have nc := (hE s C0.2.2.2.2.2.2.2.1.2.2.1).2
  have xb := (hE s C0.2.2.2.2.2.2.2.1.2.2.1).1.2.2.2.2.1
  refine j_aload_n C0 dL_hasWater_0 rfl ?_
  refine j_iconst C0 dL_hasWater_1 (v := 0) rfl ?_
  refine j_aload_n C0 dL_hasWater_2 rfl ?_
  refine j_iload_n C0 dL_hasWater_3 rfl ?_
  refine j_iload_n C0 dL_hasWater_4 rfl ?_
  refine j_xcatchV C0 (As := [.int a, .int b]) (rest := [.int 0, .ref o]) hX mv_X6_hasWater wm_L_40 (fun H h => ?_) rfl rfl ⟨Nat.le_of_ble_eq_true rfl, Nat.le_of_ble_eq_true rfl⟩ (Nat.le_of_ble_eq_true rfl) ⟨Nat.le_of_eq (Nat.zero_add _), Nat.le_of_eq (Nat.zero_add _)⟩ dL_hasWater_5 (fun k0 => ?_) (fun k0 => ?_)
  · obtain ⟨sa, ma, h3⟩ := h.1.re (A' := A) (fun q _ z => z.1)
    exact c_recv C0 (ci := 9) rfl 0 (fun cel h => ⟨_, ci_0 h⟩) H h3
  · rcases hz with hz | hz
    · exact absurd hz.1 k0
    · have hz2 : (k = 1 ∧ cc = 1) ∨ (k = 2 ∧ cc = 2) := by simpa using hz
      rcases hz2 with ⟨e1, e2⟩ | ⟨e1, e2⟩
      · rw [e1] at *
        refine ⟨[], [(⟨0, 17, 24, 15⟩ : ExceptionTableEntry)], (⟨0, 17, 20, 13⟩ : ExceptionTableEntry), "java/lang/IndexOutOfBoundsException", hexc.trans rfl, fun z hz9 => ?_, by decide, by decide, C0.2.2.2.2.1 _ wc_L_13, va_Nw.use rfl (xb _ wk_IndexOutOfBoundsException), fun q => ?_⟩
        · cases hz9
        · refine j_widen (k := 8) (n := 300) (Nat.le_of_eq (Nat.zero_add _)) (Nat.le_of_eq (Nat.zero_add _)) ?_
          refine j_astore C0 dL_hasWater_20 (Nat.le_of_ble_eq_true rfl) rfl ?_
          refine j_iconst C0 dL_hasWater_22 (v := 1) rfl ?_
          rw [e2]
          exact j_iret C0 rfl dL_hasWater_23 (fun H h => ⟨h.1, w, fun z => absurd z (by decide), h.2⟩)
      · rw [e1] at *
        refine ⟨[(⟨0, 17, 20, 13⟩ : ExceptionTableEntry)], [], (⟨0, 17, 24, 15⟩ : ExceptionTableEntry), "java/lang/IllegalArgumentException", hexc.trans rfl, fun z hz9 => ?_, by decide, by decide, C0.2.2.2.2.1 _ wc_L_15, va_Nw.use rfl (xb _ wk_IllegalArgumentException), fun q => ?_⟩
        · have hz8 : z = (⟨0, 17, 20, 13⟩ : ExceptionTableEntry) := by simpa using hz9
          rw [hz8]
          exact Or.inr ⟨by decide, _, C0.2.2.2.2.1 _ wc_L_13, nc.1⟩
        · refine j_widen (k := 8) (n := 300) (Nat.le_of_eq (Nat.zero_add _)) (Nat.le_of_eq (Nat.zero_add _)) ?_
          refine j_astore C0 dL_hasWater_24 (Nat.le_of_ble_eq_true rfl) rfl ?_
          refine j_iconst C0 dL_hasWater_26 (v := 2) rfl ?_
          rw [e2]
          exact j_iret C0 rfl dL_hasWater_27 (fun H h => ⟨h.1, w, fun z => absurd z (by decide), h.2⟩)
  · have c0 : cc = 0 := by
      rcases hz with hz | hz
      · exact hz.2
      · rw [k0] at hz
        simp at hz
    refine j_widen (k := 8) (n := 300) (Nat.le_of_eq (Nat.zero_add _)) (Nat.le_of_eq (Nat.zero_add _)) ?_
    rw [c0]
    refine j_if_eq C0 15 dL_hasWater_8 (by decide) (fun z => ?_) (fun z => ?_)
    · refine j_lconst C0 dL_hasWater_15 (v := 0) rfl ?_
      refine j_lastO C0 hAo (Ω1 := fun H => CA D Y (fun q => A q ∧ q ≠ o) tE ad F G N Q H) dL_hasWater_16 (fun H H' h h1 h2 => CA.keep h (fun q _ z => h2 q z.2)) ?_
      refine j_goto C0 28 dL_hasWater_17 (by decide) ?_
      refine j_iconst C0 dL_hasWater_28 (v := 0) rfl ?_
      exact j_iret C0 rfl dL_hasWater_29 (fun H h => ⟨h.1, _, fun _ => (if_pos z).symm, h.2⟩)
    · refine j_lconst C0 dL_hasWater_11 (v := 1) rfl ?_
      refine j_goto C0 16 dL_hasWater_12 (by decide) ?_
      refine j_lastO C0 hAo (Ω1 := fun H => CA D Y (fun q => A q ∧ q ≠ o) tE ad F G N Q H) dL_hasWater_16 (fun H H' h h1 h2 => CA.keep h (fun q _ z => h2 q z.2)) ?_
      refine j_goto C0 28 dL_hasWater_17 (by decide) ?_
      refine j_iconst C0 dL_hasWater_28 (v := 0) rfl ?_
      exact j_iret C0 rfl dL_hasWater_29 (fun H h => ⟨h.1, _, fun _ => (if_neg z).symm, h.2⟩)
theorem kw_state {l : Launch} (hsl : l.stackTraces = false) {D : va_G} {Y : Nat → ClassId} {A : Nat → Prop} {E : State → Prop} {tE mi : Nat} (hE : ∀ U, E U → EL A tE mi U) (ad : Nat → Nat) (F : Nat → Int32) (G : Nat → Nat → Int32) (N : Nat → Nat) (Q : Nat → Nat → Nat) (a : Int32) (o : Nat) (hAo : A o) (w : Int64) (cc : Int32) (hz : (eX6_state F G N Q a = 0 ∧ cc = 0) ∨ (eX6_state F G N Q a, cc) ∈ ([(1, 1)] : List (Nat × Int32))) :
    KMW l yL_state cL_state [(0, 9, 12, 13)] 4 (some .int) D Y A E 15 940 8 300 [.ref (ad 0), .int a, .ref o] (fun H => CA D Y (fun q => A q ∧ q ≠ o) tE ad F G N Q H ∧ OT D Y o w H) (some (.int cc)) (fun H => CA D Y (fun q => A q ∧ q ≠ o) tE ad F G N Q H ∧ ∃ w', (cc = 0 → w' = (vX6_state F G N Q a).toInt64) ∧ OT D Y o w' H) := by
  have hX : XM l yX6_state cX6_state 2 (some .int) D Y A E 14 900 8 300 [.ref (ad 0), .int a] (fun H => CA D Y (fun q => A q ∧ q ≠ o) tE ad F G N Q H ∧ OT D Y o w H) (some (.int (vX6_state F G N Q a))) (eX6_state F G N Q a) (fun H => CA D Y (fun q => A q ∧ q ≠ o) tE ad F G N Q H ∧ OT D Y o w H) :=
    (k_X6_state hsl (A := fun q => A q ∧ q ≠ o) (E := EC (fun q => A q ∧ q ≠ o) tE mi) (fun U h => h) ad F G N Q a).sub (fun q h => h.1) (fun U h => (hE U h).1.narrow (fun q z => z.1)) (EC.closed _ tE mi) (fun H h => ⟨h.1, fun q h1 h2 => ⟨h2, fun z => by have := h.2.lt; omega⟩⟩) (fun H H' h h' h1 h2 => ⟨h', h.2.keep (h2 o h.2.lt (fun z => z.2 rfl))⟩)
  generalize eX6_state F G N Q a = k at hX hz
  refine KMW_of RL [(0, .ref (ad 0)), (1, .int a), (2, .ref o)] rfl (by decide) hsl (Nat.le_of_ble_eq_true rfl) rfl (lok_of rfl rfl) ?_
  intro p e s m args below meth cd C0 hexc
  have nc := (hE s C0.2.2.2.2.2.2.2.1.2.2.1).2
  have xb := (hE s C0.2.2.2.2.2.2.2.1.2.2.1).1.2.2.2.2.1
  refine j_aload_n C0 dL_state_0 rfl ?_
  refine j_iconst C0 dL_state_1 (v := 0) rfl ?_
  refine j_aload_n C0 dL_state_2 rfl ?_
  refine j_iload_n C0 dL_state_3 rfl ?_
  refine j_xcatchV C0 (As := [.int a]) (rest := [.int 0, .ref o]) hX mv_X6_state wm_L_44 (fun H h => ?_) rfl rfl ⟨Nat.le_of_ble_eq_true rfl, Nat.le_of_ble_eq_true rfl⟩ (Nat.le_of_ble_eq_true rfl) ⟨Nat.le_of_eq (Nat.zero_add _), Nat.le_of_eq (Nat.zero_add _)⟩ dL_state_4 (fun k0 => ?_) (fun k0 => ?_)
  · obtain ⟨sa, ma, h3⟩ := h.1.re (A' := A) (fun q _ z => z.1)
    exact c_recv C0 (ci := 9) rfl 0 (fun cel h => ⟨_, ci_0 h⟩) H h3
  · rcases hz with hz | hz
    · exact absurd hz.1 k0
    · have hz2 : (k = 1 ∧ cc = 1) := by simpa using hz
      obtain ⟨e1, e2⟩ := hz2
      rw [e1] at *
      refine ⟨[], [], (⟨0, 9, 12, 13⟩ : ExceptionTableEntry), "java/lang/IndexOutOfBoundsException", hexc.trans rfl, fun z hz9 => ?_, by decide, by decide, C0.2.2.2.2.1 _ wc_L_13, va_Nw.use rfl (xb _ wk_IndexOutOfBoundsException), fun q => ?_⟩
      · cases hz9
      · refine j_widen (k := 8) (n := 300) (Nat.le_of_eq (Nat.zero_add _)) (Nat.le_of_eq (Nat.zero_add _)) ?_
        refine j_astore_n C0 dL_state_12 (Nat.le_of_ble_eq_true rfl) rfl ?_
        refine j_iconst C0 dL_state_13 (v := 1) rfl ?_
        rw [e2]
        exact j_iret C0 rfl dL_state_14 (fun H h => ⟨h.1, w, fun z => absurd z (by decide), h.2⟩)
  · have c0 : cc = 0 := by
      rcases hz with hz | hz
      · exact hz.2
      · rw [k0] at hz
        simp at hz
    refine j_widen (k := 8) (n := 300) (Nat.le_of_eq (Nat.zero_add _)) (Nat.le_of_eq (Nat.zero_add _)) ?_
    rw [c0]
    refine j_i2l C0 dL_state_7 (v := (vX6_state F G N Q a).toInt64) rfl ?_
    refine j_lastO C0 hAo (Ω1 := fun H => CA D Y (fun q => A q ∧ q ≠ o) tE ad F G N Q H) dL_state_8 (fun H H' h h1 h2 => CA.keep h (fun q _ z => h2 q z.2)) ?_
    refine j_goto C0 15 dL_state_9 (by decide) ?_
    refine j_iconst C0 dL_state_15 (v := 0) rfl ?_
    exact j_iret C0 rfl dL_state_16 (fun H h => ⟨h.1, _, fun _ => rfl, h.2⟩)
theorem kw_queue {l : Launch} (hsl : l.stackTraces = false) {D : va_G} {Y : Nat → ClassId} {A : Nat → Prop} {E : State → Prop} {tE mi : Nat} (hE : ∀ U, E U → EL A tE mi U) (ad : Nat → Nat) (F : Nat → Int32) (G : Nat → Nat → Int32) (N : Nat → Nat) (Q : Nat → Nat → Nat) (a : Int32) (o : Nat) (hAo : A o) (w : Int64) (cc : Int32) (hz : (eX6_queue F G N Q a = 0 ∧ cc = 0) ∨ (eX6_queue F G N Q a, cc) ∈ ([(1, 1)] : List (Nat × Int32))) :
    KMW l yL_queue cL_queue [(0, 9, 12, 13)] 4 (some .int) D Y A E 15 940 8 300 [.ref (ad 0), .int a, .ref o] (fun H => CA D Y (fun q => A q ∧ q ≠ o) tE ad F G N Q H ∧ OT D Y o w H) (some (.int cc)) (fun H => CA D Y (fun q => A q ∧ q ≠ o) tE ad F G N Q H ∧ ∃ w', (cc = 0 → w' = (vX6_queue F G N Q a).toInt64) ∧ OT D Y o w' H) := by
  have hX : XM l yX6_queue cX6_queue 2 (some .int) D Y A E 14 900 8 300 [.ref (ad 0), .int a] (fun H => CA D Y (fun q => A q ∧ q ≠ o) tE ad F G N Q H ∧ OT D Y o w H) (some (.int (vX6_queue F G N Q a))) (eX6_queue F G N Q a) (fun H => CA D Y (fun q => A q ∧ q ≠ o) tE ad F G N Q H ∧ OT D Y o w H) :=
    (k_X6_queue hsl (A := fun q => A q ∧ q ≠ o) (E := EC (fun q => A q ∧ q ≠ o) tE mi) (fun U h => h) ad F G N Q a).sub (fun q h => h.1) (fun U h => (hE U h).1.narrow (fun q z => z.1)) (EC.closed _ tE mi) (fun H h => ⟨h.1, fun q h1 h2 => ⟨h2, fun z => by have := h.2.lt; omega⟩⟩) (fun H H' h h' h1 h2 => ⟨h', h.2.keep (h2 o h.2.lt (fun z => z.2 rfl))⟩)
  generalize eX6_queue F G N Q a = k at hX hz
  refine KMW_of RL [(0, .ref (ad 0)), (1, .int a), (2, .ref o)] rfl (by decide) hsl (Nat.le_of_ble_eq_true rfl) rfl (lok_of rfl rfl) ?_
  intro p e s m args below meth cd C0 hexc
  have nc := (hE s C0.2.2.2.2.2.2.2.1.2.2.1).2
  have xb := (hE s C0.2.2.2.2.2.2.2.1.2.2.1).1.2.2.2.2.1
  refine j_aload_n C0 dL_queue_0 rfl ?_
  refine j_iconst C0 dL_queue_1 (v := 0) rfl ?_
  refine j_aload_n C0 dL_queue_2 rfl ?_
  refine j_iload_n C0 dL_queue_3 rfl ?_
  refine j_xcatchV C0 (As := [.int a]) (rest := [.int 0, .ref o]) hX mv_X6_queue wm_L_47 (fun H h => ?_) rfl rfl ⟨Nat.le_of_ble_eq_true rfl, Nat.le_of_ble_eq_true rfl⟩ (Nat.le_of_ble_eq_true rfl) ⟨Nat.le_of_eq (Nat.zero_add _), Nat.le_of_eq (Nat.zero_add _)⟩ dL_queue_4 (fun k0 => ?_) (fun k0 => ?_)
  · obtain ⟨sa, ma, h3⟩ := h.1.re (A' := A) (fun q _ z => z.1)
    exact c_recv C0 (ci := 9) rfl 0 (fun cel h => ⟨_, ci_0 h⟩) H h3
  · rcases hz with hz | hz
    · exact absurd hz.1 k0
    · have hz2 : (k = 1 ∧ cc = 1) := by simpa using hz
      obtain ⟨e1, e2⟩ := hz2
      rw [e1] at *
      refine ⟨[], [], (⟨0, 9, 12, 13⟩ : ExceptionTableEntry), "java/lang/IndexOutOfBoundsException", hexc.trans rfl, fun z hz9 => ?_, by decide, by decide, C0.2.2.2.2.1 _ wc_L_13, va_Nw.use rfl (xb _ wk_IndexOutOfBoundsException), fun q => ?_⟩
      · cases hz9
      · refine j_widen (k := 8) (n := 300) (Nat.le_of_eq (Nat.zero_add _)) (Nat.le_of_eq (Nat.zero_add _)) ?_
        refine j_astore_n C0 dL_queue_12 (Nat.le_of_ble_eq_true rfl) rfl ?_
        refine j_iconst C0 dL_queue_13 (v := 1) rfl ?_
        rw [e2]
        exact j_iret C0 rfl dL_queue_14 (fun H h => ⟨h.1, w, fun z => absurd z (by decide), h.2⟩)
  · have c0 : cc = 0 := by
      rcases hz with hz | hz
      · exact hz.2
      · rw [k0] at hz
        simp at hz
    refine j_widen (k := 8) (n := 300) (Nat.le_of_eq (Nat.zero_add _)) (Nat.le_of_eq (Nat.zero_add _)) ?_
    rw [c0]
    refine j_i2l C0 dL_queue_7 (v := (vX6_queue F G N Q a).toInt64) rfl ?_
    refine j_lastO C0 hAo (Ω1 := fun H => CA D Y (fun q => A q ∧ q ≠ o) tE ad F G N Q H) dL_queue_8 (fun H H' h h1 h2 => CA.keep h (fun q _ z => h2 q z.2)) ?_
    refine j_goto C0 15 dL_queue_9 (by decide) ?_
    refine j_iconst C0 dL_queue_15 (v := 0) rfl ?_
    exact j_iret C0 rfl dL_queue_16 (fun H h => ⟨h.1, _, fun _ => rfl, h.2⟩)
theorem kw_pass {l : Launch} (hsl : l.stackTraces = false) {D : va_G} {Y : Nat → ClassId} {A : Nat → Prop} {E : State → Prop} {tE mi : Nat} (hE : ∀ U, E U → EL A tE mi U) (ad : Nat → Nat) (F : Nat → Int32) (G : Nat → Nat → Int32) (N : Nat → Nat) (Q : Nat → Nat → Nat) (a : Int32) (hb : ∀ i, i < N 0 → vp_in (G 9 i) 6) (hr : ∀ j, j < 6 → vp_in (G 3 j) 6) (hnow : ct (F 0) 3000) (o : Nat) (hAo : A o) (w : Int64) (cc : Int32) (hz : (eX6_pass F G N Q a = 0 ∧ cc = 0) ∨ (eX6_pass F G N Q a, cc) ∈ ([(2, 1), (3, 2)] : List (Nat × Int32))) :
    KMW l yL_pass cL_pass [(0, 9, 12, 15), (0, 9, 15, 17)] 4 (some .int) D Y A E 15 940 (8 + 2 * ((sX6_pass F G N Q a).1 - N 1)) (300 + 165 * ((sX6_pass F G N Q a).1 - N 1)) [.ref (ad 0), .int a, .ref o] (fun H => CA D Y (fun q => A q ∧ q ≠ o) tE ad F G N Q H ∧ OT D Y o w H) (some (.int cc)) (fun H => CA D Y (fun q => A q ∧ q ≠ o) tE ad (hu (hu (hu F 0 (sX6_pass F G N Q a).2.2.1) 1 (sX6_pass F G N Q a).2.2.2.1) 2 (sX6_pass F G N Q a).2.2.2.2.1) (hu (hu (hu (hu (hu (hu (hu (hu (hu (hu (hu (hu G 3 (sX6_pass F G N Q a).2.2.2.2.2.1) 4 (sX6_pass F G N Q a).2.2.2.2.2.2.1) 10 (sX6_pass F G N Q a).2.2.2.2.2.2.2.1) 11 (sX6_pass F G N Q a).2.2.2.2.2.2.2.2.1) 12 (sX6_pass F G N Q a).2.2.2.2.2.2.2.2.2.1) 13 (sX6_pass F G N Q a).2.2.2.2.2.2.2.2.2.2.1) 14 (sX6_pass F G N Q a).2.2.2.2.2.2.2.2.2.2.2.1) 15 (sX6_pass F G N Q a).2.2.2.2.2.2.2.2.2.2.2.2.1) 16 (sX6_pass F G N Q a).2.2.2.2.2.2.2.2.2.2.2.2.2.1) 17 (sX6_pass F G N Q a).2.2.2.2.2.2.2.2.2.2.2.2.2.2.1) 18 (sX6_pass F G N Q a).2.2.2.2.2.2.2.2.2.2.2.2.2.2.2.1) 19 (sX6_pass F G N Q a).2.2.2.2.2.2.2.2.2.2.2.2.2.2.2.2.1) (hu (hu N 1 (sX6_pass F G N Q a).1) 2 (sX6_pass F G N Q a).2.2.2.2.2.2.2.2.2.2.2.2.2.2.2.2.2.1) (hu (hu Q 1 (sX6_pass F G N Q a).2.1) 0 (sX6_pass F G N Q a).2.2.2.2.2.2.2.2.2.2.2.2.2.2.2.2.2.2) H ∧ ∃ w', (cc = 0 → w' = (vX6_pass F G N Q a).toInt64) ∧ OT D Y o w' H) := by
  have hX : XM l yX6_pass cX6_pass 4 (some .int) D Y A E 14 900 (8 + 2 * ((sX6_pass F G N Q a).1 - N 1)) (300 + 165 * ((sX6_pass F G N Q a).1 - N 1)) [.ref (ad 0), .int a] (fun H => CA D Y (fun q => A q ∧ q ≠ o) tE ad F G N Q H ∧ OT D Y o w H) (some (.int (vX6_pass F G N Q a))) (eX6_pass F G N Q a) (fun H => CA D Y (fun q => A q ∧ q ≠ o) tE ad (hu (hu (hu F 0 (sX6_pass F G N Q a).2.2.1) 1 (sX6_pass F G N Q a).2.2.2.1) 2 (sX6_pass F G N Q a).2.2.2.2.1) (hu (hu (hu (hu (hu (hu (hu (hu (hu (hu (hu (hu G 3 (sX6_pass F G N Q a).2.2.2.2.2.1) 4 (sX6_pass F G N Q a).2.2.2.2.2.2.1) 10 (sX6_pass F G N Q a).2.2.2.2.2.2.2.1) 11 (sX6_pass F G N Q a).2.2.2.2.2.2.2.2.1) 12 (sX6_pass F G N Q a).2.2.2.2.2.2.2.2.2.1) 13 (sX6_pass F G N Q a).2.2.2.2.2.2.2.2.2.2.1) 14 (sX6_pass F G N Q a).2.2.2.2.2.2.2.2.2.2.2.1) 15 (sX6_pass F G N Q a).2.2.2.2.2.2.2.2.2.2.2.2.1) 16 (sX6_pass F G N Q a).2.2.2.2.2.2.2.2.2.2.2.2.2.1) 17 (sX6_pass F G N Q a).2.2.2.2.2.2.2.2.2.2.2.2.2.2.1) 18 (sX6_pass F G N Q a).2.2.2.2.2.2.2.2.2.2.2.2.2.2.2.1) 19 (sX6_pass F G N Q a).2.2.2.2.2.2.2.2.2.2.2.2.2.2.2.2.1) (hu (hu N 1 (sX6_pass F G N Q a).1) 2 (sX6_pass F G N Q a).2.2.2.2.2.2.2.2.2.2.2.2.2.2.2.2.2.1) (hu (hu Q 1 (sX6_pass F G N Q a).2.1) 0 (sX6_pass F G N Q a).2.2.2.2.2.2.2.2.2.2.2.2.2.2.2.2.2.2) H ∧ OT D Y o w H) :=
    (k_X6_pass hsl (A := fun q => A q ∧ q ≠ o) (E := EC (fun q => A q ∧ q ≠ o) tE mi) (fun U h => h) ad F G N Q a hb hr hnow).sub (fun q h => h.1) (fun U h => (hE U h).1.narrow (fun q z => z.1)) (EC.closed _ tE mi) (fun H h => ⟨h.1, fun q h1 h2 => ⟨h2, fun z => by have := h.2.lt; omega⟩⟩) (fun H H' h h' h1 h2 => ⟨h', h.2.keep (h2 o h.2.lt (fun z => z.2 rfl))⟩)
  generalize eX6_pass F G N Q a = k at hX hz
  refine KMW_of RL [(0, .ref (ad 0)), (1, .int a), (2, .ref o)] rfl (by decide) hsl (Nat.le_of_ble_eq_true rfl) rfl (lok_of rfl rfl) ?_
  intro p e s m args below meth cd C0 hexc
  have nc := (hE s C0.2.2.2.2.2.2.2.1.2.2.1).2
  have xb := (hE s C0.2.2.2.2.2.2.2.1.2.2.1).1.2.2.2.2.1
  refine j_aload_n C0 dL_pass_0 rfl ?_
  refine j_iconst C0 dL_pass_1 (v := 0) rfl ?_
  refine j_aload_n C0 dL_pass_2 rfl ?_
  refine j_iload_n C0 dL_pass_3 rfl ?_
  refine j_xcatchV C0 (As := [.int a]) (rest := [.int 0, .ref o]) hX mv_X6_pass wm_L_50 (fun H h => ?_) rfl rfl ⟨Nat.le_of_ble_eq_true rfl, Nat.le_of_ble_eq_true rfl⟩ (Nat.le_of_ble_eq_true rfl) ⟨Nat.le_of_eq (Nat.zero_add _), Nat.le_of_eq (Nat.zero_add _)⟩ dL_pass_4 (fun k0 => ?_) (fun k0 => ?_)
  · obtain ⟨sa, ma, h3⟩ := h.1.re (A' := A) (fun q _ z => z.1)
    exact c_recv C0 (ci := 9) rfl 0 (fun cel h => ⟨_, ci_0 h⟩) H h3
  · rcases hz with hz | hz
    · exact absurd hz.1 k0
    · have hz2 : (k = 2 ∧ cc = 1) ∨ (k = 3 ∧ cc = 2) := by simpa using hz
      rcases hz2 with ⟨e1, e2⟩ | ⟨e1, e2⟩
      · rw [e1] at *
        refine ⟨[], [(⟨0, 9, 15, 17⟩ : ExceptionTableEntry)], (⟨0, 9, 12, 15⟩ : ExceptionTableEntry), "java/lang/IllegalArgumentException", hexc.trans rfl, fun z hz9 => ?_, by decide, by decide, C0.2.2.2.2.1 _ wc_L_15, va_Nw.use rfl (xb _ wk_IllegalArgumentException), fun q => ?_⟩
        · cases hz9
        · refine j_widen (k := (8 + 2 * ((sX6_pass F G N Q a).1 - N 1))) (n := (300 + 165 * ((sX6_pass F G N Q a).1 - N 1))) (Nat.le_of_eq (Nat.zero_add _)) (Nat.le_of_eq (Nat.zero_add _)) ?_
          refine j_astore_n C0 dL_pass_12 (Nat.le_of_ble_eq_true rfl) rfl ?_
          refine j_iconst C0 dL_pass_13 (v := 1) rfl ?_
          rw [e2]
          exact j_iret C0 rfl dL_pass_14 (fun H h => ⟨h.1, w, fun z => absurd z (by decide), h.2⟩)
      · rw [e1] at *
        refine ⟨[(⟨0, 9, 12, 15⟩ : ExceptionTableEntry)], [], (⟨0, 9, 15, 17⟩ : ExceptionTableEntry), "java/lang/IllegalStateException", hexc.trans rfl, fun z hz9 => ?_, by decide, by decide, C0.2.2.2.2.1 _ wc_L_17, va_Nw.use rfl (xb _ wk_IllegalStateException), fun q => ?_⟩
        · have hz8 : z = (⟨0, 9, 12, 15⟩ : ExceptionTableEntry) := by simpa using hz9
          rw [hz8]
          exact Or.inr ⟨by decide, _, C0.2.2.2.2.1 _ wc_L_15, nc.2.2⟩
        · refine j_widen (k := (8 + 2 * ((sX6_pass F G N Q a).1 - N 1))) (n := (300 + 165 * ((sX6_pass F G N Q a).1 - N 1))) (Nat.le_of_eq (Nat.zero_add _)) (Nat.le_of_eq (Nat.zero_add _)) ?_
          refine j_astore_n C0 dL_pass_15 (Nat.le_of_ble_eq_true rfl) rfl ?_
          refine j_iconst C0 dL_pass_16 (v := 2) rfl ?_
          rw [e2]
          exact j_iret C0 rfl dL_pass_17 (fun H h => ⟨h.1, w, fun z => absurd z (by decide), h.2⟩)
  · have c0 : cc = 0 := by
      rcases hz with hz | hz
      · exact hz.2
      · rw [k0] at hz
        simp at hz
    refine j_widen (k := (8 + 2 * ((sX6_pass F G N Q a).1 - N 1))) (n := (300 + 165 * ((sX6_pass F G N Q a).1 - N 1))) (Nat.le_of_eq (Nat.zero_add _)) (Nat.le_of_eq (Nat.zero_add _)) ?_
    rw [c0]
    refine j_i2l C0 dL_pass_7 (v := (vX6_pass F G N Q a).toInt64) rfl ?_
    refine j_lastO C0 hAo (Ω1 := fun H => CA D Y (fun q => A q ∧ q ≠ o) tE ad (hu (hu (hu F 0 (sX6_pass F G N Q a).2.2.1) 1 (sX6_pass F G N Q a).2.2.2.1) 2 (sX6_pass F G N Q a).2.2.2.2.1) (hu (hu (hu (hu (hu (hu (hu (hu (hu (hu (hu (hu G 3 (sX6_pass F G N Q a).2.2.2.2.2.1) 4 (sX6_pass F G N Q a).2.2.2.2.2.2.1) 10 (sX6_pass F G N Q a).2.2.2.2.2.2.2.1) 11 (sX6_pass F G N Q a).2.2.2.2.2.2.2.2.1) 12 (sX6_pass F G N Q a).2.2.2.2.2.2.2.2.2.1) 13 (sX6_pass F G N Q a).2.2.2.2.2.2.2.2.2.2.1) 14 (sX6_pass F G N Q a).2.2.2.2.2.2.2.2.2.2.2.1) 15 (sX6_pass F G N Q a).2.2.2.2.2.2.2.2.2.2.2.2.1) 16 (sX6_pass F G N Q a).2.2.2.2.2.2.2.2.2.2.2.2.2.1) 17 (sX6_pass F G N Q a).2.2.2.2.2.2.2.2.2.2.2.2.2.2.1) 18 (sX6_pass F G N Q a).2.2.2.2.2.2.2.2.2.2.2.2.2.2.2.1) 19 (sX6_pass F G N Q a).2.2.2.2.2.2.2.2.2.2.2.2.2.2.2.2.1) (hu (hu N 1 (sX6_pass F G N Q a).1) 2 (sX6_pass F G N Q a).2.2.2.2.2.2.2.2.2.2.2.2.2.2.2.2.2.1) (hu (hu Q 1 (sX6_pass F G N Q a).2.1) 0 (sX6_pass F G N Q a).2.2.2.2.2.2.2.2.2.2.2.2.2.2.2.2.2.2) H) dL_pass_8 (fun H H' h h1 h2 => CA.keep h (fun q _ z => h2 q z.2)) ?_
    refine j_goto C0 18 dL_pass_9 (by decide) ?_
    refine j_iconst C0 dL_pass_18 (v := 0) rfl ?_
    exact j_iret C0 rfl dL_pass_19 (fun H h => ⟨h.1, _, fun _ => rfl, h.2⟩)
theorem kw_swap {l : Launch} (hsl : l.stackTraces = false) {D : va_G} {Y : Nat → ClassId} {A : Nat → Prop} {E : State → Prop} {tE mi : Nat} (hE : ∀ U, E U → EL A tE mi U) (ad : Nat → Nat) (F : Nat → Int32) (G : Nat → Nat → Int32) (N : Nat → Nat) (Q : Nat → Nat → Nat) (a : Int32) (b : Int32) (o : Nat) (hAo : A o) (w : Int64) (cc : Int32) (hz : (eX6_swap F G N Q a b = 0 ∧ cc = 0) ∨ (eX6_swap F G N Q a b, cc) ∈ ([(1, 1), (2, 2)] : List (Nat × Int32))) :
    KMW l yL_swap cL_swap [(0, 10, 13, 13), (0, 10, 17, 15)] 5 (some .int) D Y A E 15 940 8 300 [.ref (ad 0), .int a, .int b, .ref o] (fun H => CA D Y (fun q => A q ∧ q ≠ o) tE ad F G N Q H ∧ OT D Y o w H) (some (.int cc)) (fun H => CA D Y (fun q => A q ∧ q ≠ o) tE ad F (hu G 3 (sX6_swap F G N Q a b)) N Q H ∧ ∃ w', (cc = 0 → w' = (vX6_swap F G N Q a b).toInt64) ∧ OT D Y o w' H) := by
  have hX : XM l yX6_swap cX6_swap 3 (some .int) D Y A E 14 900 8 300 [.ref (ad 0), .int a, .int b] (fun H => CA D Y (fun q => A q ∧ q ≠ o) tE ad F G N Q H ∧ OT D Y o w H) (some (.int (vX6_swap F G N Q a b))) (eX6_swap F G N Q a b) (fun H => CA D Y (fun q => A q ∧ q ≠ o) tE ad F (hu G 3 (sX6_swap F G N Q a b)) N Q H ∧ OT D Y o w H) :=
    (k_X6_swap hsl (A := fun q => A q ∧ q ≠ o) (E := EC (fun q => A q ∧ q ≠ o) tE mi) (fun U h => h) ad F G N Q a b).sub (fun q h => h.1) (fun U h => (hE U h).1.narrow (fun q z => z.1)) (EC.closed _ tE mi) (fun H h => ⟨h.1, fun q h1 h2 => ⟨h2, fun z => by have := h.2.lt; omega⟩⟩) (fun H H' h h' h1 h2 => ⟨h', h.2.keep (h2 o h.2.lt (fun z => z.2 rfl))⟩)
  generalize eX6_swap F G N Q a b = k at hX hz
  refine KMW_of RL [(0, .ref (ad 0)), (1, .int a), (2, .int b), (3, .ref o)] rfl (by decide) hsl (Nat.le_of_ble_eq_true rfl) rfl (lok_of rfl rfl) ?_
  intro p e s m args below meth cd C0 hexc
  have nc := (hE s C0.2.2.2.2.2.2.2.1.2.2.1).2
  have xb := (hE s C0.2.2.2.2.2.2.2.1.2.2.1).1.2.2.2.2.1
  refine j_aload_n C0 dL_swap_0 rfl ?_
  refine j_iconst C0 dL_swap_1 (v := 0) rfl ?_
  refine j_aload_n C0 dL_swap_2 rfl ?_
  refine j_iload_n C0 dL_swap_3 rfl ?_
  refine j_iload_n C0 dL_swap_4 rfl ?_
  refine j_xcatchV C0 (As := [.int a, .int b]) (rest := [.int 0, .ref o]) hX mv_X6_swap wm_L_53 (fun H h => ?_) rfl rfl ⟨Nat.le_of_ble_eq_true rfl, Nat.le_of_ble_eq_true rfl⟩ (Nat.le_of_ble_eq_true rfl) ⟨Nat.le_of_eq (Nat.zero_add _), Nat.le_of_eq (Nat.zero_add _)⟩ dL_swap_5 (fun k0 => ?_) (fun k0 => ?_)
  · obtain ⟨sa, ma, h3⟩ := h.1.re (A' := A) (fun q _ z => z.1)
    exact c_recv C0 (ci := 9) rfl 0 (fun cel h => ⟨_, ci_0 h⟩) H h3
  · rcases hz with hz | hz
    · exact absurd hz.1 k0
    · have hz2 : (k = 1 ∧ cc = 1) ∨ (k = 2 ∧ cc = 2) := by simpa using hz
      rcases hz2 with ⟨e1, e2⟩ | ⟨e1, e2⟩
      · rw [e1] at *
        refine ⟨[], [(⟨0, 10, 17, 15⟩ : ExceptionTableEntry)], (⟨0, 10, 13, 13⟩ : ExceptionTableEntry), "java/lang/IndexOutOfBoundsException", hexc.trans rfl, fun z hz9 => ?_, by decide, by decide, C0.2.2.2.2.1 _ wc_L_13, va_Nw.use rfl (xb _ wk_IndexOutOfBoundsException), fun q => ?_⟩
        · cases hz9
        · refine j_widen (k := 8) (n := 300) (Nat.le_of_eq (Nat.zero_add _)) (Nat.le_of_eq (Nat.zero_add _)) ?_
          refine j_astore C0 dL_swap_13 (Nat.le_of_ble_eq_true rfl) rfl ?_
          refine j_iconst C0 dL_swap_15 (v := 1) rfl ?_
          rw [e2]
          exact j_iret C0 rfl dL_swap_16 (fun H h => ⟨h.1, w, fun z => absurd z (by decide), h.2⟩)
      · rw [e1] at *
        refine ⟨[(⟨0, 10, 13, 13⟩ : ExceptionTableEntry)], [], (⟨0, 10, 17, 15⟩ : ExceptionTableEntry), "java/lang/IllegalArgumentException", hexc.trans rfl, fun z hz9 => ?_, by decide, by decide, C0.2.2.2.2.1 _ wc_L_15, va_Nw.use rfl (xb _ wk_IllegalArgumentException), fun q => ?_⟩
        · have hz8 : z = (⟨0, 10, 13, 13⟩ : ExceptionTableEntry) := by simpa using hz9
          rw [hz8]
          exact Or.inr ⟨by decide, _, C0.2.2.2.2.1 _ wc_L_13, nc.1⟩
        · refine j_widen (k := 8) (n := 300) (Nat.le_of_eq (Nat.zero_add _)) (Nat.le_of_eq (Nat.zero_add _)) ?_
          refine j_astore C0 dL_swap_17 (Nat.le_of_ble_eq_true rfl) rfl ?_
          refine j_iconst C0 dL_swap_19 (v := 2) rfl ?_
          rw [e2]
          exact j_iret C0 rfl dL_swap_20 (fun H h => ⟨h.1, w, fun z => absurd z (by decide), h.2⟩)
  · have c0 : cc = 0 := by
      rcases hz with hz | hz
      · exact hz.2
      · rw [k0] at hz
        simp at hz
    refine j_widen (k := 8) (n := 300) (Nat.le_of_eq (Nat.zero_add _)) (Nat.le_of_eq (Nat.zero_add _)) ?_
    rw [c0]
    refine j_i2l C0 dL_swap_8 (v := (vX6_swap F G N Q a b).toInt64) rfl ?_
    refine j_lastO C0 hAo (Ω1 := fun H => CA D Y (fun q => A q ∧ q ≠ o) tE ad F (hu G 3 (sX6_swap F G N Q a b)) N Q H) dL_swap_9 (fun H H' h h1 h2 => CA.keep h (fun q _ z => h2 q z.2)) ?_
    refine j_goto C0 21 dL_swap_10 (by decide) ?_
    refine j_iconst C0 dL_swap_21 (v := 0) rfl ?_
    exact j_iret C0 rfl dL_swap_22 (fun H h => ⟨h.1, _, fun _ => rfl, h.2⟩)
theorem kw_rota {l : Launch} (hsl : l.stackTraces = false) {D : va_G} {Y : Nat → ClassId} {A : Nat → Prop} {E : State → Prop} {tE mi : Nat} (hE : ∀ U, E U → EL A tE mi U) (ad : Nat → Nat) (F : Nat → Int32) (G : Nat → Nat → Int32) (N : Nat → Nat) (Q : Nat → Nat → Nat) (a : Int32) (o : Nat) (hAo : A o) (w : Int64) (cc : Int32) (hz : (eX6_rota F G N Q a = 0 ∧ cc = 0) ∨ (eX6_rota F G N Q a, cc) ∈ ([(1, 1)] : List (Nat × Int32))) :
    KMW l yL_rota cL_rota [(0, 9, 12, 13)] 4 (some .int) D Y A E 15 940 8 300 [.ref (ad 0), .int a, .ref o] (fun H => CA D Y (fun q => A q ∧ q ≠ o) tE ad F G N Q H ∧ OT D Y o w H) (some (.int cc)) (fun H => CA D Y (fun q => A q ∧ q ≠ o) tE ad F G N Q H ∧ ∃ w', (cc = 0 → w' = (vX6_rota F G N Q a).toInt64) ∧ OT D Y o w' H) := by
  have hX : XM l yX6_rota cX6_rota 2 (some .int) D Y A E 14 900 8 300 [.ref (ad 0), .int a] (fun H => CA D Y (fun q => A q ∧ q ≠ o) tE ad F G N Q H ∧ OT D Y o w H) (some (.int (vX6_rota F G N Q a))) (eX6_rota F G N Q a) (fun H => CA D Y (fun q => A q ∧ q ≠ o) tE ad F G N Q H ∧ OT D Y o w H) :=
    (k_X6_rota hsl (A := fun q => A q ∧ q ≠ o) (E := EC (fun q => A q ∧ q ≠ o) tE mi) (fun U h => h) ad F G N Q a).sub (fun q h => h.1) (fun U h => (hE U h).1.narrow (fun q z => z.1)) (EC.closed _ tE mi) (fun H h => ⟨h.1, fun q h1 h2 => ⟨h2, fun z => by have := h.2.lt; omega⟩⟩) (fun H H' h h' h1 h2 => ⟨h', h.2.keep (h2 o h.2.lt (fun z => z.2 rfl))⟩)
  generalize eX6_rota F G N Q a = k at hX hz
  refine KMW_of RL [(0, .ref (ad 0)), (1, .int a), (2, .ref o)] rfl (by decide) hsl (Nat.le_of_ble_eq_true rfl) rfl (lok_of rfl rfl) ?_
  intro p e s m args below meth cd C0 hexc
  have nc := (hE s C0.2.2.2.2.2.2.2.1.2.2.1).2
  have xb := (hE s C0.2.2.2.2.2.2.2.1.2.2.1).1.2.2.2.2.1
  refine j_aload_n C0 dL_rota_0 rfl ?_
  refine j_iconst C0 dL_rota_1 (v := 0) rfl ?_
  refine j_aload_n C0 dL_rota_2 rfl ?_
  refine j_iload_n C0 dL_rota_3 rfl ?_
  refine j_xcatchV C0 (As := [.int a]) (rest := [.int 0, .ref o]) hX mv_X6_rota wm_L_56 (fun H h => ?_) rfl rfl ⟨Nat.le_of_ble_eq_true rfl, Nat.le_of_ble_eq_true rfl⟩ (Nat.le_of_ble_eq_true rfl) ⟨Nat.le_of_eq (Nat.zero_add _), Nat.le_of_eq (Nat.zero_add _)⟩ dL_rota_4 (fun k0 => ?_) (fun k0 => ?_)
  · obtain ⟨sa, ma, h3⟩ := h.1.re (A' := A) (fun q _ z => z.1)
    exact c_recv C0 (ci := 9) rfl 0 (fun cel h => ⟨_, ci_0 h⟩) H h3
  · rcases hz with hz | hz
    · exact absurd hz.1 k0
    · have hz2 : (k = 1 ∧ cc = 1) := by simpa using hz
      obtain ⟨e1, e2⟩ := hz2
      rw [e1] at *
      refine ⟨[], [], (⟨0, 9, 12, 13⟩ : ExceptionTableEntry), "java/lang/IndexOutOfBoundsException", hexc.trans rfl, fun z hz9 => ?_, by decide, by decide, C0.2.2.2.2.1 _ wc_L_13, va_Nw.use rfl (xb _ wk_IndexOutOfBoundsException), fun q => ?_⟩
      · cases hz9
      · refine j_widen (k := 8) (n := 300) (Nat.le_of_eq (Nat.zero_add _)) (Nat.le_of_eq (Nat.zero_add _)) ?_
        refine j_astore_n C0 dL_rota_12 (Nat.le_of_ble_eq_true rfl) rfl ?_
        refine j_iconst C0 dL_rota_13 (v := 1) rfl ?_
        rw [e2]
        exact j_iret C0 rfl dL_rota_14 (fun H h => ⟨h.1, w, fun z => absurd z (by decide), h.2⟩)
  · have c0 : cc = 0 := by
      rcases hz with hz | hz
      · exact hz.2
      · rw [k0] at hz
        simp at hz
    refine j_widen (k := 8) (n := 300) (Nat.le_of_eq (Nat.zero_add _)) (Nat.le_of_eq (Nat.zero_add _)) ?_
    rw [c0]
    refine j_i2l C0 dL_rota_7 (v := (vX6_rota F G N Q a).toInt64) rfl ?_
    refine j_lastO C0 hAo (Ω1 := fun H => CA D Y (fun q => A q ∧ q ≠ o) tE ad F G N Q H) dL_rota_8 (fun H H' h h1 h2 => CA.keep h (fun q _ z => h2 q z.2)) ?_
    refine j_goto C0 15 dL_rota_9 (by decide) ?_
    refine j_iconst C0 dL_rota_15 (v := 0) rfl ?_
    exact j_iret C0 rfl dL_rota_16 (fun H h => ⟨h.1, _, fun _ => rfl, h.2⟩)
theorem kw_isReady {l : Launch} (hsl : l.stackTraces = false) {D : va_G} {Y : Nat → ClassId} {A : Nat → Prop} {E : State → Prop} {tE mi : Nat} (hE : ∀ U, E U → EL A tE mi U) (ad : Nat → Nat) (F : Nat → Int32) (G : Nat → Nat → Int32) (N : Nat → Nat) (Q : Nat → Nat → Nat) (a : Int32) (o : Nat) (hAo : A o) (w : Int64) (cc : Int32) (hz : (eX6_isReady F G N Q a = 0 ∧ cc = 0) ∨ (eX6_isReady F G N Q a, cc) ∈ ([(1, 1)] : List (Nat × Int32))) :
    KMW l yL_isReady cL_isReady [(0, 16, 19, 13)] 4 (some .int) D Y A E 15 940 8 300 [.ref (ad 0), .int a, .ref o] (fun H => CA D Y (fun q => A q ∧ q ≠ o) tE ad F G N Q H ∧ OT D Y o w H) (some (.int cc)) (fun H => CA D Y (fun q => A q ∧ q ≠ o) tE ad F G N Q H ∧ ∃ w', (cc = 0 → w' = (if vX6_isReady F G N Q a = 0 then 0 else 1)) ∧ OT D Y o w' H) := by
  have hX : XM l yX6_isReady cX6_isReady 2 (some .boolean) D Y A E 14 900 8 300 [.ref (ad 0), .int a] (fun H => CA D Y (fun q => A q ∧ q ≠ o) tE ad F G N Q H ∧ OT D Y o w H) (some (.int (vX6_isReady F G N Q a))) (eX6_isReady F G N Q a) (fun H => CA D Y (fun q => A q ∧ q ≠ o) tE ad F G N Q H ∧ OT D Y o w H) :=
    (k_X6_isReady hsl (A := fun q => A q ∧ q ≠ o) (E := EC (fun q => A q ∧ q ≠ o) tE mi) (fun U h => h) ad F G N Q a).sub (fun q h => h.1) (fun U h => (hE U h).1.narrow (fun q z => z.1)) (EC.closed _ tE mi) (fun H h => ⟨h.1, fun q h1 h2 => ⟨h2, fun z => by have := h.2.lt; omega⟩⟩) (fun H H' h h' h1 h2 => ⟨h', h.2.keep (h2 o h.2.lt (fun z => z.2 rfl))⟩)
  generalize eX6_isReady F G N Q a = k at hX hz
  refine KMW_of RL [(0, .ref (ad 0)), (1, .int a), (2, .ref o)] rfl (by decide) hsl (Nat.le_of_ble_eq_true rfl) rfl (lok_of rfl rfl) ?_
  intro p e s m args below meth cd C0 hexc
  have nc := (hE s C0.2.2.2.2.2.2.2.1.2.2.1).2
  have xb := (hE s C0.2.2.2.2.2.2.2.1.2.2.1).1.2.2.2.2.1
  refine j_aload_n C0 dL_isReady_0 rfl ?_
  refine j_iconst C0 dL_isReady_1 (v := 0) rfl ?_
  refine j_aload_n C0 dL_isReady_2 rfl ?_
  refine j_iload_n C0 dL_isReady_3 rfl ?_
  refine j_xcatchV C0 (As := [.int a]) (rest := [.int 0, .ref o]) hX mv_X6_isReady wm_L_59 (fun H h => ?_) rfl rfl ⟨Nat.le_of_ble_eq_true rfl, Nat.le_of_ble_eq_true rfl⟩ (Nat.le_of_ble_eq_true rfl) ⟨Nat.le_of_eq (Nat.zero_add _), Nat.le_of_eq (Nat.zero_add _)⟩ dL_isReady_4 (fun k0 => ?_) (fun k0 => ?_)
  · obtain ⟨sa, ma, h3⟩ := h.1.re (A' := A) (fun q _ z => z.1)
    exact c_recv C0 (ci := 9) rfl 0 (fun cel h => ⟨_, ci_0 h⟩) H h3
  · rcases hz with hz | hz
    · exact absurd hz.1 k0
    · have hz2 : (k = 1 ∧ cc = 1) := by simpa using hz
      obtain ⟨e1, e2⟩ := hz2
      rw [e1] at *
      refine ⟨[], [], (⟨0, 16, 19, 13⟩ : ExceptionTableEntry), "java/lang/IndexOutOfBoundsException", hexc.trans rfl, fun z hz9 => ?_, by decide, by decide, C0.2.2.2.2.1 _ wc_L_13, va_Nw.use rfl (xb _ wk_IndexOutOfBoundsException), fun q => ?_⟩
      · cases hz9
      · refine j_widen (k := 8) (n := 300) (Nat.le_of_eq (Nat.zero_add _)) (Nat.le_of_eq (Nat.zero_add _)) ?_
        refine j_astore_n C0 dL_isReady_19 (Nat.le_of_ble_eq_true rfl) rfl ?_
        refine j_iconst C0 dL_isReady_20 (v := 1) rfl ?_
        rw [e2]
        exact j_iret C0 rfl dL_isReady_21 (fun H h => ⟨h.1, w, fun z => absurd z (by decide), h.2⟩)
  · have c0 : cc = 0 := by
      rcases hz with hz | hz
      · exact hz.2
      · rw [k0] at hz
        simp at hz
    refine j_widen (k := 8) (n := 300) (Nat.le_of_eq (Nat.zero_add _)) (Nat.le_of_eq (Nat.zero_add _)) ?_
    rw [c0]
    refine j_if_eq C0 14 dL_isReady_7 (by decide) (fun z => ?_) (fun z => ?_)
    · refine j_lconst C0 dL_isReady_14 (v := 0) rfl ?_
      refine j_lastO C0 hAo (Ω1 := fun H => CA D Y (fun q => A q ∧ q ≠ o) tE ad F G N Q H) dL_isReady_15 (fun H H' h h1 h2 => CA.keep h (fun q _ z => h2 q z.2)) ?_
      refine j_goto C0 22 dL_isReady_16 (by decide) ?_
      refine j_iconst C0 dL_isReady_22 (v := 0) rfl ?_
      exact j_iret C0 rfl dL_isReady_23 (fun H h => ⟨h.1, _, fun _ => (if_pos z).symm, h.2⟩)
    · refine j_lconst C0 dL_isReady_10 (v := 1) rfl ?_
      refine j_goto C0 15 dL_isReady_11 (by decide) ?_
      refine j_lastO C0 hAo (Ω1 := fun H => CA D Y (fun q => A q ∧ q ≠ o) tE ad F G N Q H) dL_isReady_15 (fun H H' h h1 h2 => CA.keep h (fun q _ z => h2 q z.2)) ?_
      refine j_goto C0 22 dL_isReady_16 (by decide) ?_
      refine j_iconst C0 dL_isReady_22 (v := 0) rfl ?_
      exact j_iret C0 rfl dL_isReady_23 (fun H h => ⟨h.1, _, fun _ => (if_neg z).symm, h.2⟩)
theorem kw_move {l : Launch} (hsl : l.stackTraces = false) {D : va_G} {Y : Nat → ClassId} {A : Nat → Prop} {E : State → Prop} {tE mi : Nat} (hE : ∀ U, E U → EL A tE mi U) (ad : Nat → Nat) (F : Nat → Int32) (G : Nat → Nat → Int32) (N : Nat → Nat) (Q : Nat → Nat → Nat) (a : Int32) (o : Nat) (hAo : A o) (w : Int64) (cc : Int32) (hz : (eX6_move F G N Q a = 0 ∧ cc = 0) ∨ (eX6_move F G N Q a, cc) ∈ ([(1, 1)] : List (Nat × Int32))) :
    KMW l yL_move cL_move [(0, 9, 12, 13)] 4 (some .int) D Y A E 15 940 8 300 [.ref (ad 0), .int a, .ref o] (fun H => CA D Y (fun q => A q ∧ q ≠ o) tE ad F G N Q H ∧ OT D Y o w H) (some (.int cc)) (fun H => CA D Y (fun q => A q ∧ q ≠ o) tE ad F G N Q H ∧ ∃ w', (cc = 0 → w' = (vX6_move F G N Q a).toInt64) ∧ OT D Y o w' H) := by
  have hX : XM l yX6_move cX6_move 3 (some .int) D Y A E 14 900 8 300 [.ref (ad 0), .int a] (fun H => CA D Y (fun q => A q ∧ q ≠ o) tE ad F G N Q H ∧ OT D Y o w H) (some (.int (vX6_move F G N Q a))) (eX6_move F G N Q a) (fun H => CA D Y (fun q => A q ∧ q ≠ o) tE ad F G N Q H ∧ OT D Y o w H) :=
    (k_X6_move hsl (A := fun q => A q ∧ q ≠ o) (E := EC (fun q => A q ∧ q ≠ o) tE mi) (fun U h => h) ad F G N Q a).sub (fun q h => h.1) (fun U h => (hE U h).1.narrow (fun q z => z.1)) (EC.closed _ tE mi) (fun H h => ⟨h.1, fun q h1 h2 => ⟨h2, fun z => by have := h.2.lt; omega⟩⟩) (fun H H' h h' h1 h2 => ⟨h', h.2.keep (h2 o h.2.lt (fun z => z.2 rfl))⟩)
  generalize eX6_move F G N Q a = k at hX hz
  refine KMW_of RL [(0, .ref (ad 0)), (1, .int a), (2, .ref o)] rfl (by decide) hsl (Nat.le_of_ble_eq_true rfl) rfl (lok_of rfl rfl) ?_
  intro p e s m args below meth cd C0 hexc
  have nc := (hE s C0.2.2.2.2.2.2.2.1.2.2.1).2
  have xb := (hE s C0.2.2.2.2.2.2.2.1.2.2.1).1.2.2.2.2.1
  refine j_aload_n C0 dL_move_0 rfl ?_
  refine j_iconst C0 dL_move_1 (v := 0) rfl ?_
  refine j_aload_n C0 dL_move_2 rfl ?_
  refine j_iload_n C0 dL_move_3 rfl ?_
  refine j_xcatchV C0 (As := [.int a]) (rest := [.int 0, .ref o]) hX mv_X6_move wm_L_63 (fun H h => ?_) rfl rfl ⟨Nat.le_of_ble_eq_true rfl, Nat.le_of_ble_eq_true rfl⟩ (Nat.le_of_ble_eq_true rfl) ⟨Nat.le_of_eq (Nat.zero_add _), Nat.le_of_eq (Nat.zero_add _)⟩ dL_move_4 (fun k0 => ?_) (fun k0 => ?_)
  · obtain ⟨sa, ma, h3⟩ := h.1.re (A' := A) (fun q _ z => z.1)
    exact c_recv C0 (ci := 9) rfl 0 (fun cel h => ⟨_, ci_0 h⟩) H h3
  · rcases hz with hz | hz
    · exact absurd hz.1 k0
    · have hz2 : (k = 1 ∧ cc = 1) := by simpa using hz
      obtain ⟨e1, e2⟩ := hz2
      rw [e1] at *
      refine ⟨[], [], (⟨0, 9, 12, 13⟩ : ExceptionTableEntry), "java/lang/IndexOutOfBoundsException", hexc.trans rfl, fun z hz9 => ?_, by decide, by decide, C0.2.2.2.2.1 _ wc_L_13, va_Nw.use rfl (xb _ wk_IndexOutOfBoundsException), fun q => ?_⟩
      · cases hz9
      · refine j_widen (k := 8) (n := 300) (Nat.le_of_eq (Nat.zero_add _)) (Nat.le_of_eq (Nat.zero_add _)) ?_
        refine j_astore_n C0 dL_move_12 (Nat.le_of_ble_eq_true rfl) rfl ?_
        refine j_iconst C0 dL_move_13 (v := 1) rfl ?_
        rw [e2]
        exact j_iret C0 rfl dL_move_14 (fun H h => ⟨h.1, w, fun z => absurd z (by decide), h.2⟩)
  · have c0 : cc = 0 := by
      rcases hz with hz | hz
      · exact hz.2
      · rw [k0] at hz
        simp at hz
    refine j_widen (k := 8) (n := 300) (Nat.le_of_eq (Nat.zero_add _)) (Nat.le_of_eq (Nat.zero_add _)) ?_
    rw [c0]
    refine j_i2l C0 dL_move_7 (v := (vX6_move F G N Q a).toInt64) rfl ?_
    refine j_lastO C0 hAo (Ω1 := fun H => CA D Y (fun q => A q ∧ q ≠ o) tE ad F G N Q H) dL_move_8 (fun H H' h h1 h2 => CA.keep h (fun q _ z => h2 q z.2)) ?_
    refine j_goto C0 15 dL_move_9 (by decide) ?_
    refine j_iconst C0 dL_move_15 (v := 0) rfl ?_
    exact j_iret C0 rfl dL_move_16 (fun H h => ⟨h.1, _, fun _ => rfl, h.2⟩)
theorem kw_isSound {l : Launch} (hsl : l.stackTraces = false) {D : va_G} {Y : Nat → ClassId} {A : Nat → Prop} {E : State → Prop} {tE mi : Nat} (hE : ∀ U, E U → EL A tE mi U) (ad : Nat → Nat) (F : Nat → Int32) (G : Nat → Nat → Int32) (N : Nat → Nat) (Q : Nat → Nat → Nat) (a : Int32) (hb : ∀ i, i < N 0 → vp_in (G 9 i) 6) (hmh : ∀ j, j < N 1 → vp_in (G 16 j) 3001) (o : Nat) (hAo : A o) (w : Int64) (cc : Int32) (hz : (eX6_isSound F G N Q a = 0 ∧ cc = 0) ∨ (eX6_isSound F G N Q a, cc) ∈ ([(1, 1)] : List (Nat × Int32))) :
    KMW l yL_isSound cL_isSound [(0, 16, 19, 13)] 4 (some .int) D Y A E 15 940 8 300 [.ref (ad 0), .int a, .ref o] (fun H => CA D Y (fun q => A q ∧ q ≠ o) tE ad F G N Q H ∧ OT D Y o w H) (some (.int cc)) (fun H => CA D Y (fun q => A q ∧ q ≠ o) tE ad F G N Q H ∧ ∃ w', (cc = 0 → w' = (if vX6_isSound F G N Q a = 0 then 0 else 1)) ∧ OT D Y o w' H) := by
  have hX : XM l yX6_isSound cX6_isSound 3 (some .boolean) D Y A E 14 900 8 300 [.ref (ad 0), .int a] (fun H => CA D Y (fun q => A q ∧ q ≠ o) tE ad F G N Q H ∧ OT D Y o w H) (some (.int (vX6_isSound F G N Q a))) (eX6_isSound F G N Q a) (fun H => CA D Y (fun q => A q ∧ q ≠ o) tE ad F G N Q H ∧ OT D Y o w H) :=
    (k_X6_isSound hsl (A := fun q => A q ∧ q ≠ o) (E := EC (fun q => A q ∧ q ≠ o) tE mi) (fun U h => h) ad F G N Q a hb hmh).sub (fun q h => h.1) (fun U h => (hE U h).1.narrow (fun q z => z.1)) (EC.closed _ tE mi) (fun H h => ⟨h.1, fun q h1 h2 => ⟨h2, fun z => by have := h.2.lt; omega⟩⟩) (fun H H' h h' h1 h2 => ⟨h', h.2.keep (h2 o h.2.lt (fun z => z.2 rfl))⟩)
  generalize eX6_isSound F G N Q a = k at hX hz
  refine KMW_of RL [(0, .ref (ad 0)), (1, .int a), (2, .ref o)] rfl (by decide) hsl (Nat.le_of_ble_eq_true rfl) rfl (lok_of rfl rfl) ?_
  intro p e s m args below meth cd C0 hexc
  have nc := (hE s C0.2.2.2.2.2.2.2.1.2.2.1).2
  have xb := (hE s C0.2.2.2.2.2.2.2.1.2.2.1).1.2.2.2.2.1
  refine j_aload_n C0 dL_isSound_0 rfl ?_
  refine j_iconst C0 dL_isSound_1 (v := 0) rfl ?_
  refine j_aload_n C0 dL_isSound_2 rfl ?_
  refine j_iload_n C0 dL_isSound_3 rfl ?_
  refine j_xcatchV C0 (As := [.int a]) (rest := [.int 0, .ref o]) hX mv_X6_isSound wm_L_66 (fun H h => ?_) rfl rfl ⟨Nat.le_of_ble_eq_true rfl, Nat.le_of_ble_eq_true rfl⟩ (Nat.le_of_ble_eq_true rfl) ⟨Nat.le_of_eq (Nat.zero_add _), Nat.le_of_eq (Nat.zero_add _)⟩ dL_isSound_4 (fun k0 => ?_) (fun k0 => ?_)
  · obtain ⟨sa, ma, h3⟩ := h.1.re (A' := A) (fun q _ z => z.1)
    exact c_recv C0 (ci := 9) rfl 0 (fun cel h => ⟨_, ci_0 h⟩) H h3
  · rcases hz with hz | hz
    · exact absurd hz.1 k0
    · have hz2 : (k = 1 ∧ cc = 1) := by simpa using hz
      obtain ⟨e1, e2⟩ := hz2
      rw [e1] at *
      refine ⟨[], [], (⟨0, 16, 19, 13⟩ : ExceptionTableEntry), "java/lang/IndexOutOfBoundsException", hexc.trans rfl, fun z hz9 => ?_, by decide, by decide, C0.2.2.2.2.1 _ wc_L_13, va_Nw.use rfl (xb _ wk_IndexOutOfBoundsException), fun q => ?_⟩
      · cases hz9
      · refine j_widen (k := 8) (n := 300) (Nat.le_of_eq (Nat.zero_add _)) (Nat.le_of_eq (Nat.zero_add _)) ?_
        refine j_astore_n C0 dL_isSound_19 (Nat.le_of_ble_eq_true rfl) rfl ?_
        refine j_iconst C0 dL_isSound_20 (v := 1) rfl ?_
        rw [e2]
        exact j_iret C0 rfl dL_isSound_21 (fun H h => ⟨h.1, w, fun z => absurd z (by decide), h.2⟩)
  · have c0 : cc = 0 := by
      rcases hz with hz | hz
      · exact hz.2
      · rw [k0] at hz
        simp at hz
    refine j_widen (k := 8) (n := 300) (Nat.le_of_eq (Nat.zero_add _)) (Nat.le_of_eq (Nat.zero_add _)) ?_
    rw [c0]
    refine j_if_eq C0 14 dL_isSound_7 (by decide) (fun z => ?_) (fun z => ?_)
    · refine j_lconst C0 dL_isSound_14 (v := 0) rfl ?_
      refine j_lastO C0 hAo (Ω1 := fun H => CA D Y (fun q => A q ∧ q ≠ o) tE ad F G N Q H) dL_isSound_15 (fun H H' h h1 h2 => CA.keep h (fun q _ z => h2 q z.2)) ?_
      refine j_goto C0 22 dL_isSound_16 (by decide) ?_
      refine j_iconst C0 dL_isSound_22 (v := 0) rfl ?_
      exact j_iret C0 rfl dL_isSound_23 (fun H h => ⟨h.1, _, fun _ => (if_pos z).symm, h.2⟩)
    · refine j_lconst C0 dL_isSound_10 (v := 1) rfl ?_
      refine j_goto C0 15 dL_isSound_11 (by decide) ?_
      refine j_lastO C0 hAo (Ω1 := fun H => CA D Y (fun q => A q ∧ q ≠ o) tE ad F G N Q H) dL_isSound_15 (fun H H' h h1 h2 => CA.keep h (fun q _ z => h2 q z.2)) ?_
      refine j_goto C0 22 dL_isSound_16 (by decide) ?_
      refine j_iconst C0 dL_isSound_22 (v := 0) rfl ?_
      exact j_iret C0 rfl dL_isSound_23 (fun H h => ⟨h.1, _, fun _ => (if_neg z).symm, h.2⟩)
theorem kw_paid {l : Launch} (hsl : l.stackTraces = false) {D : va_G} {Y : Nat → ClassId} {A : Nat → Prop} {E : State → Prop} {tE mi : Nat} (hE : ∀ U, E U → EL A tE mi U) (ad : Nat → Nat) (F : Nat → Int32) (G : Nat → Nat → Int32) (N : Nat → Nat) (Q : Nat → Nat → Nat) (a : Int32) (o : Nat) (hAo : A o) (w : Int64) (cc : Int32) (hz : (eX6_paid F G N Q a = 0 ∧ cc = 0) ∨ (eX6_paid F G N Q a, cc) ∈ ([(1, 1)] : List (Nat × Int32))) :
    KMW l yL_paid cL_paid [(0, 9, 12, 13)] 4 (some .int) D Y A E 15 940 8 300 [.ref (ad 0), .int a, .ref o] (fun H => CA D Y (fun q => A q ∧ q ≠ o) tE ad F G N Q H ∧ OT D Y o w H) (some (.int cc)) (fun H => CA D Y (fun q => A q ∧ q ≠ o) tE ad F G N Q H ∧ ∃ w', (cc = 0 → w' = (vX6_paid F G N Q a).toInt64) ∧ OT D Y o w' H) := by
  have hX : XM l yX6_paid cX6_paid 2 (some .int) D Y A E 14 900 8 300 [.ref (ad 0), .int a] (fun H => CA D Y (fun q => A q ∧ q ≠ o) tE ad F G N Q H ∧ OT D Y o w H) (some (.int (vX6_paid F G N Q a))) (eX6_paid F G N Q a) (fun H => CA D Y (fun q => A q ∧ q ≠ o) tE ad F G N Q H ∧ OT D Y o w H) :=
    (k_X6_paid hsl (A := fun q => A q ∧ q ≠ o) (E := EC (fun q => A q ∧ q ≠ o) tE mi) (fun U h => h) ad F G N Q a).sub (fun q h => h.1) (fun U h => (hE U h).1.narrow (fun q z => z.1)) (EC.closed _ tE mi) (fun H h => ⟨h.1, fun q h1 h2 => ⟨h2, fun z => by have := h.2.lt; omega⟩⟩) (fun H H' h h' h1 h2 => ⟨h', h.2.keep (h2 o h.2.lt (fun z => z.2 rfl))⟩)
  generalize eX6_paid F G N Q a = k at hX hz
  refine KMW_of RL [(0, .ref (ad 0)), (1, .int a), (2, .ref o)] rfl (by decide) hsl (Nat.le_of_ble_eq_true rfl) rfl (lok_of rfl rfl) ?_
  intro p e s m args below meth cd C0 hexc
  have nc := (hE s C0.2.2.2.2.2.2.2.1.2.2.1).2
  have xb := (hE s C0.2.2.2.2.2.2.2.1.2.2.1).1.2.2.2.2.1
  refine j_aload_n C0 dL_paid_0 rfl ?_
  refine j_iconst C0 dL_paid_1 (v := 0) rfl ?_
  refine j_aload_n C0 dL_paid_2 rfl ?_
  refine j_iload_n C0 dL_paid_3 rfl ?_
  refine j_xcatchV C0 (As := [.int a]) (rest := [.int 0, .ref o]) hX mv_X6_paid wm_L_69 (fun H h => ?_) rfl rfl ⟨Nat.le_of_ble_eq_true rfl, Nat.le_of_ble_eq_true rfl⟩ (Nat.le_of_ble_eq_true rfl) ⟨Nat.le_of_eq (Nat.zero_add _), Nat.le_of_eq (Nat.zero_add _)⟩ dL_paid_4 (fun k0 => ?_) (fun k0 => ?_)
  · obtain ⟨sa, ma, h3⟩ := h.1.re (A' := A) (fun q _ z => z.1)
    exact c_recv C0 (ci := 9) rfl 0 (fun cel h => ⟨_, ci_0 h⟩) H h3
  · rcases hz with hz | hz
    · exact absurd hz.1 k0
    · have hz2 : (k = 1 ∧ cc = 1) := by simpa using hz
      obtain ⟨e1, e2⟩ := hz2
      rw [e1] at *
      refine ⟨[], [], (⟨0, 9, 12, 13⟩ : ExceptionTableEntry), "java/lang/IndexOutOfBoundsException", hexc.trans rfl, fun z hz9 => ?_, by decide, by decide, C0.2.2.2.2.1 _ wc_L_13, va_Nw.use rfl (xb _ wk_IndexOutOfBoundsException), fun q => ?_⟩
      · cases hz9
      · refine j_widen (k := 8) (n := 300) (Nat.le_of_eq (Nat.zero_add _)) (Nat.le_of_eq (Nat.zero_add _)) ?_
        refine j_astore_n C0 dL_paid_12 (Nat.le_of_ble_eq_true rfl) rfl ?_
        refine j_iconst C0 dL_paid_13 (v := 1) rfl ?_
        rw [e2]
        exact j_iret C0 rfl dL_paid_14 (fun H h => ⟨h.1, w, fun z => absurd z (by decide), h.2⟩)
  · have c0 : cc = 0 := by
      rcases hz with hz | hz
      · exact hz.2
      · rw [k0] at hz
        simp at hz
    refine j_widen (k := 8) (n := 300) (Nat.le_of_eq (Nat.zero_add _)) (Nat.le_of_eq (Nat.zero_add _)) ?_
    rw [c0]
    refine j_i2l C0 dL_paid_7 (v := (vX6_paid F G N Q a).toInt64) rfl ?_
    refine j_lastO C0 hAo (Ω1 := fun H => CA D Y (fun q => A q ∧ q ≠ o) tE ad F G N Q H) dL_paid_8 (fun H H' h h1 h2 => CA.keep h (fun q _ z => h2 q z.2)) ?_
    refine j_goto C0 15 dL_paid_9 (by decide) ?_
    refine j_iconst C0 dL_paid_15 (v := 0) rfl ?_
    exact j_iret C0 rfl dL_paid_16 (fun H h => ⟨h.1, _, fun _ => rfl, h.2⟩)
theorem kw_earned {l : Launch} (hsl : l.stackTraces = false) {D : va_G} {Y : Nat → ClassId} {A : Nat → Prop} {E : State → Prop} {tE mi : Nat} (hE : ∀ U, E U → EL A tE mi U) (ad : Nat → Nat) (F : Nat → Int32) (G : Nat → Nat → Int32) (N : Nat → Nat) (Q : Nat → Nat → Nat) (a : Int32) (o : Nat) (hAo : A o) (w : Int64) (cc : Int32) (hz : (eX6_earned F G N Q a = 0 ∧ cc = 0) ∨ (eX6_earned F G N Q a, cc) ∈ ([(1, 1)] : List (Nat × Int32))) :
    KMW l yL_earned cL_earned [(0, 9, 12, 13)] 4 (some .int) D Y A E 15 940 8 300 [.ref (ad 0), .int a, .ref o] (fun H => CA D Y (fun q => A q ∧ q ≠ o) tE ad F G N Q H ∧ OT D Y o w H) (some (.int cc)) (fun H => CA D Y (fun q => A q ∧ q ≠ o) tE ad F G N Q H ∧ ∃ w', (cc = 0 → w' = (vX6_earned F G N Q a).toInt64) ∧ OT D Y o w' H) := by
  have hX : XM l yX6_earned cX6_earned 2 (some .int) D Y A E 14 900 8 300 [.ref (ad 0), .int a] (fun H => CA D Y (fun q => A q ∧ q ≠ o) tE ad F G N Q H ∧ OT D Y o w H) (some (.int (vX6_earned F G N Q a))) (eX6_earned F G N Q a) (fun H => CA D Y (fun q => A q ∧ q ≠ o) tE ad F G N Q H ∧ OT D Y o w H) :=
    (k_X6_earned hsl (A := fun q => A q ∧ q ≠ o) (E := EC (fun q => A q ∧ q ≠ o) tE mi) (fun U h => h) ad F G N Q a).sub (fun q h => h.1) (fun U h => (hE U h).1.narrow (fun q z => z.1)) (EC.closed _ tE mi) (fun H h => ⟨h.1, fun q h1 h2 => ⟨h2, fun z => by have := h.2.lt; omega⟩⟩) (fun H H' h h' h1 h2 => ⟨h', h.2.keep (h2 o h.2.lt (fun z => z.2 rfl))⟩)
  generalize eX6_earned F G N Q a = k at hX hz
  refine KMW_of RL [(0, .ref (ad 0)), (1, .int a), (2, .ref o)] rfl (by decide) hsl (Nat.le_of_ble_eq_true rfl) rfl (lok_of rfl rfl) ?_
  intro p e s m args below meth cd C0 hexc
  have nc := (hE s C0.2.2.2.2.2.2.2.1.2.2.1).2
  have xb := (hE s C0.2.2.2.2.2.2.2.1.2.2.1).1.2.2.2.2.1
  refine j_aload_n C0 dL_earned_0 rfl ?_
  refine j_iconst C0 dL_earned_1 (v := 0) rfl ?_
  refine j_aload_n C0 dL_earned_2 rfl ?_
  refine j_iload_n C0 dL_earned_3 rfl ?_
  refine j_xcatchV C0 (As := [.int a]) (rest := [.int 0, .ref o]) hX mv_X6_earned wm_L_72 (fun H h => ?_) rfl rfl ⟨Nat.le_of_ble_eq_true rfl, Nat.le_of_ble_eq_true rfl⟩ (Nat.le_of_ble_eq_true rfl) ⟨Nat.le_of_eq (Nat.zero_add _), Nat.le_of_eq (Nat.zero_add _)⟩ dL_earned_4 (fun k0 => ?_) (fun k0 => ?_)
  · obtain ⟨sa, ma, h3⟩ := h.1.re (A' := A) (fun q _ z => z.1)
    exact c_recv C0 (ci := 9) rfl 0 (fun cel h => ⟨_, ci_0 h⟩) H h3
  · rcases hz with hz | hz
    · exact absurd hz.1 k0
    · have hz2 : (k = 1 ∧ cc = 1) := by simpa using hz
      obtain ⟨e1, e2⟩ := hz2
      rw [e1] at *
      refine ⟨[], [], (⟨0, 9, 12, 13⟩ : ExceptionTableEntry), "java/lang/IndexOutOfBoundsException", hexc.trans rfl, fun z hz9 => ?_, by decide, by decide, C0.2.2.2.2.1 _ wc_L_13, va_Nw.use rfl (xb _ wk_IndexOutOfBoundsException), fun q => ?_⟩
      · cases hz9
      · refine j_widen (k := 8) (n := 300) (Nat.le_of_eq (Nat.zero_add _)) (Nat.le_of_eq (Nat.zero_add _)) ?_
        refine j_astore_n C0 dL_earned_12 (Nat.le_of_ble_eq_true rfl) rfl ?_
        refine j_iconst C0 dL_earned_13 (v := 1) rfl ?_
        rw [e2]
        exact j_iret C0 rfl dL_earned_14 (fun H h => ⟨h.1, w, fun z => absurd z (by decide), h.2⟩)
  · have c0 : cc = 0 := by
      rcases hz with hz | hz
      · exact hz.2
      · rw [k0] at hz
        simp at hz
    refine j_widen (k := 8) (n := 300) (Nat.le_of_eq (Nat.zero_add _)) (Nat.le_of_eq (Nat.zero_add _)) ?_
    rw [c0]
    refine j_i2l C0 dL_earned_7 (v := (vX6_earned F G N Q a).toInt64) rfl ?_
    refine j_lastO C0 hAo (Ω1 := fun H => CA D Y (fun q => A q ∧ q ≠ o) tE ad F G N Q H) dL_earned_8 (fun H H' h h1 h2 => CA.keep h (fun q _ z => h2 q z.2)) ?_
    refine j_goto C0 15 dL_earned_9 (by decide) ?_
    refine j_iconst C0 dL_earned_15 (v := 0) rfl ?_
    exact j_iret C0 rfl dL_earned_16 (fun H h => ⟨h.1, _, fun _ => rfl, h.2⟩)
theorem kw_lost {l : Launch} (hsl : l.stackTraces = false) {D : va_G} {Y : Nat → ClassId} {A : Nat → Prop} {E : State → Prop} {tE mi : Nat} (hE : ∀ U, E U → EL A tE mi U) (ad : Nat → Nat) (F : Nat → Int32) (G : Nat → Nat → Int32) (N : Nat → Nat) (Q : Nat → Nat → Nat) (a : Int32) (o : Nat) (hAo : A o) (w : Int64) (cc : Int32) (hz : (eX6_lost F G N Q a = 0 ∧ cc = 0) ∨ (eX6_lost F G N Q a, cc) ∈ ([(1, 1)] : List (Nat × Int32))) :
    KMW l yL_lost cL_lost [(0, 9, 12, 13)] 4 (some .int) D Y A E 15 940 8 300 [.ref (ad 0), .int a, .ref o] (fun H => CA D Y (fun q => A q ∧ q ≠ o) tE ad F G N Q H ∧ OT D Y o w H) (some (.int cc)) (fun H => CA D Y (fun q => A q ∧ q ≠ o) tE ad F G N Q H ∧ ∃ w', (cc = 0 → w' = (vX6_lost F G N Q a).toInt64) ∧ OT D Y o w' H) := by
  have hX : XM l yX6_lost cX6_lost 2 (some .int) D Y A E 14 900 8 300 [.ref (ad 0), .int a] (fun H => CA D Y (fun q => A q ∧ q ≠ o) tE ad F G N Q H ∧ OT D Y o w H) (some (.int (vX6_lost F G N Q a))) (eX6_lost F G N Q a) (fun H => CA D Y (fun q => A q ∧ q ≠ o) tE ad F G N Q H ∧ OT D Y o w H) :=
    (k_X6_lost hsl (A := fun q => A q ∧ q ≠ o) (E := EC (fun q => A q ∧ q ≠ o) tE mi) (fun U h => h) ad F G N Q a).sub (fun q h => h.1) (fun U h => (hE U h).1.narrow (fun q z => z.1)) (EC.closed _ tE mi) (fun H h => ⟨h.1, fun q h1 h2 => ⟨h2, fun z => by have := h.2.lt; omega⟩⟩) (fun H H' h h' h1 h2 => ⟨h', h.2.keep (h2 o h.2.lt (fun z => z.2 rfl))⟩)
  generalize eX6_lost F G N Q a = k at hX hz
  refine KMW_of RL [(0, .ref (ad 0)), (1, .int a), (2, .ref o)] rfl (by decide) hsl (Nat.le_of_ble_eq_true rfl) rfl (lok_of rfl rfl) ?_
  intro p e s m args below meth cd C0 hexc
  have nc := (hE s C0.2.2.2.2.2.2.2.1.2.2.1).2
  have xb := (hE s C0.2.2.2.2.2.2.2.1.2.2.1).1.2.2.2.2.1
  refine j_aload_n C0 dL_lost_0 rfl ?_
  refine j_iconst C0 dL_lost_1 (v := 0) rfl ?_
  refine j_aload_n C0 dL_lost_2 rfl ?_
  refine j_iload_n C0 dL_lost_3 rfl ?_
  refine j_xcatchV C0 (As := [.int a]) (rest := [.int 0, .ref o]) hX mv_X6_lost wm_L_75 (fun H h => ?_) rfl rfl ⟨Nat.le_of_ble_eq_true rfl, Nat.le_of_ble_eq_true rfl⟩ (Nat.le_of_ble_eq_true rfl) ⟨Nat.le_of_eq (Nat.zero_add _), Nat.le_of_eq (Nat.zero_add _)⟩ dL_lost_4 (fun k0 => ?_) (fun k0 => ?_)
  · obtain ⟨sa, ma, h3⟩ := h.1.re (A' := A) (fun q _ z => z.1)
    exact c_recv C0 (ci := 9) rfl 0 (fun cel h => ⟨_, ci_0 h⟩) H h3
  · rcases hz with hz | hz
    · exact absurd hz.1 k0
    · have hz2 : (k = 1 ∧ cc = 1) := by simpa using hz
      obtain ⟨e1, e2⟩ := hz2
      rw [e1] at *
      refine ⟨[], [], (⟨0, 9, 12, 13⟩ : ExceptionTableEntry), "java/lang/IndexOutOfBoundsException", hexc.trans rfl, fun z hz9 => ?_, by decide, by decide, C0.2.2.2.2.1 _ wc_L_13, va_Nw.use rfl (xb _ wk_IndexOutOfBoundsException), fun q => ?_⟩
      · cases hz9
      · refine j_widen (k := 8) (n := 300) (Nat.le_of_eq (Nat.zero_add _)) (Nat.le_of_eq (Nat.zero_add _)) ?_
        refine j_astore_n C0 dL_lost_12 (Nat.le_of_ble_eq_true rfl) rfl ?_
        refine j_iconst C0 dL_lost_13 (v := 1) rfl ?_
        rw [e2]
        exact j_iret C0 rfl dL_lost_14 (fun H h => ⟨h.1, w, fun z => absurd z (by decide), h.2⟩)
  · have c0 : cc = 0 := by
      rcases hz with hz | hz
      · exact hz.2
      · rw [k0] at hz
        simp at hz
    refine j_widen (k := 8) (n := 300) (Nat.le_of_eq (Nat.zero_add _)) (Nat.le_of_eq (Nat.zero_add _)) ?_
    rw [c0]
    refine j_i2l C0 dL_lost_7 (v := (vX6_lost F G N Q a).toInt64) rfl ?_
    refine j_lastO C0 hAo (Ω1 := fun H => CA D Y (fun q => A q ∧ q ≠ o) tE ad F G N Q H) dL_lost_8 (fun H H' h h1 h2 => CA.keep h (fun q _ z => h2 q z.2)) ?_
    refine j_goto C0 15 dL_lost_9 (by decide) ?_
    refine j_iconst C0 dL_lost_15 (v := 0) rfl ?_
    exact j_iret C0 rfl dL_lost_16 (fun H h => ⟨h.1, _, fun _ => rfl, h.2⟩)
theorem kw_claims {l : Launch} (hsl : l.stackTraces = false) {D : va_G} {Y : Nat → ClassId} {A : Nat → Prop} {E : State → Prop} {tE mi : Nat} (hE : ∀ U, E U → EL A tE mi U) (ad : Nat → Nat) (F : Nat → Int32) (G : Nat → Nat → Int32) (N : Nat → Nat) (Q : Nat → Nat → Nat) (a : Int32) (o : Nat) (hAo : A o) (w : Int64) (cc : Int32) (hz : (eX6_claims F G N Q a = 0 ∧ cc = 0) ∨ (eX6_claims F G N Q a, cc) ∈ ([(1, 1)] : List (Nat × Int32))) :
    KMW l yL_claims cL_claims [(0, 9, 12, 13)] 4 (some .int) D Y A E 15 940 8 300 [.ref (ad 0), .int a, .ref o] (fun H => CA D Y (fun q => A q ∧ q ≠ o) tE ad F G N Q H ∧ OT D Y o w H) (some (.int cc)) (fun H => CA D Y (fun q => A q ∧ q ≠ o) tE ad F G N Q H ∧ ∃ w', (cc = 0 → w' = (vX6_claims F G N Q a).toInt64) ∧ OT D Y o w' H) := by
  have hX : XM l yX6_claims cX6_claims 2 (some .int) D Y A E 14 900 8 300 [.ref (ad 0), .int a] (fun H => CA D Y (fun q => A q ∧ q ≠ o) tE ad F G N Q H ∧ OT D Y o w H) (some (.int (vX6_claims F G N Q a))) (eX6_claims F G N Q a) (fun H => CA D Y (fun q => A q ∧ q ≠ o) tE ad F G N Q H ∧ OT D Y o w H) :=
    (k_X6_claims hsl (A := fun q => A q ∧ q ≠ o) (E := EC (fun q => A q ∧ q ≠ o) tE mi) (fun U h => h) ad F G N Q a).sub (fun q h => h.1) (fun U h => (hE U h).1.narrow (fun q z => z.1)) (EC.closed _ tE mi) (fun H h => ⟨h.1, fun q h1 h2 => ⟨h2, fun z => by have := h.2.lt; omega⟩⟩) (fun H H' h h' h1 h2 => ⟨h', h.2.keep (h2 o h.2.lt (fun z => z.2 rfl))⟩)
  generalize eX6_claims F G N Q a = k at hX hz
  refine KMW_of RL [(0, .ref (ad 0)), (1, .int a), (2, .ref o)] rfl (by decide) hsl (Nat.le_of_ble_eq_true rfl) rfl (lok_of rfl rfl) ?_
  intro p e s m args below meth cd C0 hexc
  have nc := (hE s C0.2.2.2.2.2.2.2.1.2.2.1).2
  have xb := (hE s C0.2.2.2.2.2.2.2.1.2.2.1).1.2.2.2.2.1
  refine j_aload_n C0 dL_claims_0 rfl ?_
  refine j_iconst C0 dL_claims_1 (v := 0) rfl ?_
  refine j_aload_n C0 dL_claims_2 rfl ?_
  refine j_iload_n C0 dL_claims_3 rfl ?_
  refine j_xcatchV C0 (As := [.int a]) (rest := [.int 0, .ref o]) hX mv_X6_claims wm_L_78 (fun H h => ?_) rfl rfl ⟨Nat.le_of_ble_eq_true rfl, Nat.le_of_ble_eq_true rfl⟩ (Nat.le_of_ble_eq_true rfl) ⟨Nat.le_of_eq (Nat.zero_add _), Nat.le_of_eq (Nat.zero_add _)⟩ dL_claims_4 (fun k0 => ?_) (fun k0 => ?_)
  · obtain ⟨sa, ma, h3⟩ := h.1.re (A' := A) (fun q _ z => z.1)
    exact c_recv C0 (ci := 9) rfl 0 (fun cel h => ⟨_, ci_0 h⟩) H h3
  · rcases hz with hz | hz
    · exact absurd hz.1 k0
    · have hz2 : (k = 1 ∧ cc = 1) := by simpa using hz
      obtain ⟨e1, e2⟩ := hz2
      rw [e1] at *
      refine ⟨[], [], (⟨0, 9, 12, 13⟩ : ExceptionTableEntry), "java/lang/IndexOutOfBoundsException", hexc.trans rfl, fun z hz9 => ?_, by decide, by decide, C0.2.2.2.2.1 _ wc_L_13, va_Nw.use rfl (xb _ wk_IndexOutOfBoundsException), fun q => ?_⟩
      · cases hz9
      · refine j_widen (k := 8) (n := 300) (Nat.le_of_eq (Nat.zero_add _)) (Nat.le_of_eq (Nat.zero_add _)) ?_
        refine j_astore_n C0 dL_claims_12 (Nat.le_of_ble_eq_true rfl) rfl ?_
        refine j_iconst C0 dL_claims_13 (v := 1) rfl ?_
        rw [e2]
        exact j_iret C0 rfl dL_claims_14 (fun H h => ⟨h.1, w, fun z => absurd z (by decide), h.2⟩)
  · have c0 : cc = 0 := by
      rcases hz with hz | hz
      · exact hz.2
      · rw [k0] at hz
        simp at hz
    refine j_widen (k := 8) (n := 300) (Nat.le_of_eq (Nat.zero_add _)) (Nat.le_of_eq (Nat.zero_add _)) ?_
    rw [c0]
    refine j_i2l C0 dL_claims_7 (v := (vX6_claims F G N Q a).toInt64) rfl ?_
    refine j_lastO C0 hAo (Ω1 := fun H => CA D Y (fun q => A q ∧ q ≠ o) tE ad F G N Q H) dL_claims_8 (fun H H' h h1 h2 => CA.keep h (fun q _ z => h2 q z.2)) ?_
    refine j_goto C0 15 dL_claims_9 (by decide) ?_
    refine j_iconst C0 dL_claims_15 (v := 0) rfl ?_
    exact j_iret C0 rfl dL_claims_16 (fun H h => ⟨h.1, _, fun _ => rfl, h.2⟩)
theorem kw_payClaim {l : Launch} (hsl : l.stackTraces = false) {D : va_G} {Y : Nat → ClassId} {A : Nat → Prop} {E : State → Prop} {tE mi : Nat} (hE : ∀ U, E U → EL A tE mi U) (ad : Nat → Nat) (F : Nat → Int32) (G : Nat → Nat → Int32) (N : Nat → Nat) (Q : Nat → Nat → Nat) (a : Int32) (o : Nat) (hAo : A o) (w : Int64) (cc : Int32) (hz : (eX6_payClaim F G N Q a = 0 ∧ cc = 0) ∨ (eX6_payClaim F G N Q a, cc) ∈ ([(1, 1), (3, 2)] : List (Nat × Int32))) :
    KMW l yL_payClaim cL_payClaim [(0, 9, 12, 13), (0, 9, 15, 17)] 4 (some .int) D Y A E 15 940 8 300 [.ref (ad 0), .int a, .ref o] (fun H => CA D Y (fun q => A q ∧ q ≠ o) tE ad F G N Q H ∧ OT D Y o w H) (some (.int cc)) (fun H => CA D Y (fun q => A q ∧ q ≠ o) tE ad (hu F 2 (sX6_payClaim F G N Q a).1) (hu (hu G 13 (sX6_payClaim F G N Q a).2.1) 15 (sX6_payClaim F G N Q a).2.2) N Q H ∧ ∃ w', (cc = 0 → w' = (vX6_payClaim F G N Q a).toInt64) ∧ OT D Y o w' H) := by
  have hX : XM l yX6_payClaim cX6_payClaim 4 (some .int) D Y A E 14 900 8 300 [.ref (ad 0), .int a] (fun H => CA D Y (fun q => A q ∧ q ≠ o) tE ad F G N Q H ∧ OT D Y o w H) (some (.int (vX6_payClaim F G N Q a))) (eX6_payClaim F G N Q a) (fun H => CA D Y (fun q => A q ∧ q ≠ o) tE ad (hu F 2 (sX6_payClaim F G N Q a).1) (hu (hu G 13 (sX6_payClaim F G N Q a).2.1) 15 (sX6_payClaim F G N Q a).2.2) N Q H ∧ OT D Y o w H) :=
    (k_X6_payClaim hsl (A := fun q => A q ∧ q ≠ o) (E := EC (fun q => A q ∧ q ≠ o) tE mi) (fun U h => h) ad F G N Q a).sub (fun q h => h.1) (fun U h => (hE U h).1.narrow (fun q z => z.1)) (EC.closed _ tE mi) (fun H h => ⟨h.1, fun q h1 h2 => ⟨h2, fun z => by have := h.2.lt; omega⟩⟩) (fun H H' h h' h1 h2 => ⟨h', h.2.keep (h2 o h.2.lt (fun z => z.2 rfl))⟩)
  generalize eX6_payClaim F G N Q a = k at hX hz
  refine KMW_of RL [(0, .ref (ad 0)), (1, .int a), (2, .ref o)] rfl (by decide) hsl (Nat.le_of_ble_eq_true rfl) rfl (lok_of rfl rfl) ?_
  intro p e s m args below meth cd C0 hexc
  have nc := (hE s C0.2.2.2.2.2.2.2.1.2.2.1).2
  have xb := (hE s C0.2.2.2.2.2.2.2.1.2.2.1).1.2.2.2.2.1
  refine j_aload_n C0 dL_payClaim_0 rfl ?_
  refine j_iconst C0 dL_payClaim_1 (v := 0) rfl ?_
  refine j_aload_n C0 dL_payClaim_2 rfl ?_
  refine j_iload_n C0 dL_payClaim_3 rfl ?_
  refine j_xcatchV C0 (As := [.int a]) (rest := [.int 0, .ref o]) hX mv_X6_payClaim wm_L_81 (fun H h => ?_) rfl rfl ⟨Nat.le_of_ble_eq_true rfl, Nat.le_of_ble_eq_true rfl⟩ (Nat.le_of_ble_eq_true rfl) ⟨Nat.le_of_eq (Nat.zero_add _), Nat.le_of_eq (Nat.zero_add _)⟩ dL_payClaim_4 (fun k0 => ?_) (fun k0 => ?_)
  · obtain ⟨sa, ma, h3⟩ := h.1.re (A' := A) (fun q _ z => z.1)
    exact c_recv C0 (ci := 9) rfl 0 (fun cel h => ⟨_, ci_0 h⟩) H h3
  · rcases hz with hz | hz
    · exact absurd hz.1 k0
    · have hz2 : (k = 1 ∧ cc = 1) ∨ (k = 3 ∧ cc = 2) := by simpa using hz
      rcases hz2 with ⟨e1, e2⟩ | ⟨e1, e2⟩
      · rw [e1] at *
        refine ⟨[], [(⟨0, 9, 15, 17⟩ : ExceptionTableEntry)], (⟨0, 9, 12, 13⟩ : ExceptionTableEntry), "java/lang/IndexOutOfBoundsException", hexc.trans rfl, fun z hz9 => ?_, by decide, by decide, C0.2.2.2.2.1 _ wc_L_13, va_Nw.use rfl (xb _ wk_IndexOutOfBoundsException), fun q => ?_⟩
        · cases hz9
        · refine j_widen (k := 8) (n := 300) (Nat.le_of_eq (Nat.zero_add _)) (Nat.le_of_eq (Nat.zero_add _)) ?_
          refine j_astore_n C0 dL_payClaim_12 (Nat.le_of_ble_eq_true rfl) rfl ?_
          refine j_iconst C0 dL_payClaim_13 (v := 1) rfl ?_
          rw [e2]
          exact j_iret C0 rfl dL_payClaim_14 (fun H h => ⟨h.1, w, fun z => absurd z (by decide), h.2⟩)
      · rw [e1] at *
        refine ⟨[(⟨0, 9, 12, 13⟩ : ExceptionTableEntry)], [], (⟨0, 9, 15, 17⟩ : ExceptionTableEntry), "java/lang/IllegalStateException", hexc.trans rfl, fun z hz9 => ?_, by decide, by decide, C0.2.2.2.2.1 _ wc_L_17, va_Nw.use rfl (xb _ wk_IllegalStateException), fun q => ?_⟩
        · have hz8 : z = (⟨0, 9, 12, 13⟩ : ExceptionTableEntry) := by simpa using hz9
          rw [hz8]
          exact Or.inr ⟨by decide, _, C0.2.2.2.2.1 _ wc_L_13, nc.2.1⟩
        · refine j_widen (k := 8) (n := 300) (Nat.le_of_eq (Nat.zero_add _)) (Nat.le_of_eq (Nat.zero_add _)) ?_
          refine j_astore_n C0 dL_payClaim_15 (Nat.le_of_ble_eq_true rfl) rfl ?_
          refine j_iconst C0 dL_payClaim_16 (v := 2) rfl ?_
          rw [e2]
          exact j_iret C0 rfl dL_payClaim_17 (fun H h => ⟨h.1, w, fun z => absurd z (by decide), h.2⟩)
  · have c0 : cc = 0 := by
      rcases hz with hz | hz
      · exact hz.2
      · rw [k0] at hz
        simp at hz
    refine j_widen (k := 8) (n := 300) (Nat.le_of_eq (Nat.zero_add _)) (Nat.le_of_eq (Nat.zero_add _)) ?_
    rw [c0]
    refine j_i2l C0 dL_payClaim_7 (v := (vX6_payClaim F G N Q a).toInt64) rfl ?_
    refine j_lastO C0 hAo (Ω1 := fun H => CA D Y (fun q => A q ∧ q ≠ o) tE ad (hu F 2 (sX6_payClaim F G N Q a).1) (hu (hu G 13 (sX6_payClaim F G N Q a).2.1) 15 (sX6_payClaim F G N Q a).2.2) N Q H) dL_payClaim_8 (fun H H' h h1 h2 => CA.keep h (fun q _ z => h2 q z.2)) ?_
    refine j_goto C0 18 dL_payClaim_9 (by decide) ?_
    refine j_iconst C0 dL_payClaim_18 (v := 0) rfl ?_
    exact j_iret C0 rfl dL_payClaim_19 (fun H h => ⟨h.1, _, fun _ => rfl, h.2⟩)
end
