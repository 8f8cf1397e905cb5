section
variable {p : Program} {l : Launch} {e : Env} {s : State} {m : MethodId} {args : Array Value} {below : List Frame} {meth : Method} {cd : Code} {Q9 : State → Prop} {ret9 : Option FieldType} {D : va_G} {Y : Nat → ClassId} {tE mi b Ls o cells slots i5 : Nat} {xs : Nat → Int32} {c6 c7 : Nat → Nat} {F : Nat → Int32} {G : Nat → Nat → Int32} {N : Nat → Nat} {Q : Nat → Nat → Nat} {f : Nat → Int32} {g : Nat → Nat → Int32} {w : Int64}
theorem lc_isReady (hsl : l.stackTraces = false) (C0 : CX p l s m args meth cd RL cL_law 7 ret9 D Y (fun q => s.heap.size ≤ q) (EL (fun q => s.heap.size ≤ q) tE mi)) (hX : va_X b Ls xs s s.heap) (hbl : b < s.heap.size) (hLs : Ls ≤ 2560) (hi : i5 + 4 < Ls) (ho : s.heap.size ≤ o) (hro : o ∉ rL c7) (hc : cells + 300 ≤ 601024) (hs : slots + 17000 ≤ 7293034) (hz : zI F G N Q f g)
    (kk : ∀ (F' : Nat → Int32) (G' : Nat → Nat → Int32) (N' : Nat → Nat) (Q' : Nat → Nat → Nat) (f' : Nat → Int32) (g' : Nat → Nat → Int32) (w' : Int64), zI F' G' N' Q' f' g' → N 1 ≤ N' 1 → J p l e room_1 s m args below meth cd (fun q => s.heap.size ≤ q) 7 Q9 (LW D Y s.heap.size tE o c6 c7 F' G' N' Q' f' g' w') (cells + (8 + 2 * (N' 1 - N 1))) (slots + (300 + 165 * (N' 1 - N 1))) 1521 [(0, .ref b), (1, .ref (c6 0)), (2, .ref (c7 0)), (3, .ref o), (4, .int (nI i5))] []) :
    J p l e room_1 s m args below meth cd (fun q => s.heap.size ≤ q) 7 Q9 (LW D Y s.heap.size tE o c6 c7 F G N Q f g w) cells slots 1007 [(0, .ref b), (1, .ref (c6 0)), (2, .ref (c7 0)), (3, .ref o), (4, .int (nI i5))] [] := by
  have hbA : ¬ (fun q => s.heap.size ≤ q) b := Nat.not_le.mpr hbl
  obtain ⟨zx, zi⟩ := zf_isReady (xs (i5 + 1)) hz
  have hzz : (eX6_isReady F G N Q (xs (i5 + 1)) = 0 ∧ (sX7_isReady f g (xs (i5 + 1))).1 0 = 0) ∨ (eX6_isReady F G N Q (xs (i5 + 1)), (sX7_isReady f g (xs (i5 + 1))).1 0) ∈ ([(1, 1)] : List (Nat × Int32)) := zx.imp (fun h => ⟨h.1, h.2.1⟩) id
  have hv : (sX7_isReady f g (xs (i5 + 1))).1 0 = 0 → vX6_isReady F G N Q (xs (i5 + 1)) = vX7_isReady f g (xs (i5 + 1)) := by
    intro h0
    rcases zx with h | h
    · exact h.2.2
    · rw [h0] at h
      simp at h
  refine j_aload_n C0 dL_law_1007 rfl ?_
  refine j_word C0 hX hbl hbA (k := 1) rfl (by omega) hLs rfl rfl dL_law_1008 dL_law_1009 dL_law_1011 dL_law_1012 dL_law_1013 ?_
  refine j_aload_n C0 dL_law_1014 rfl ?_
  refine j_callSW C0 (As := [.ref (c6 0), .int (xs (i5 + 1)), .ref o]) (rest := []) (lw_kw (P := fun w' => (sX7_isReady f g (xs (i5 + 1))).1 0 = 0 → w' = (if vX6_isReady F G N Q (xs (i5 + 1)) = 0 then 0 else 1)) (f := f) (g := g) (kw_isReady hsl (A := (fun q => s.heap.size ≤ q ∧ q ∉ rL c7)) (E := EL (fun q => s.heap.size ≤ q ∧ q ∉ rL c7) tE mi) (fun U h => h) c6 F G N Q (xs (i5 + 1)) o ⟨ho, hro⟩ w ((sX7_isReady f g (xs (i5 + 1))).1 0) hzz)) msw_isReady wm_L_137 rfl rfl ⟨(Nat.le_of_ble_eq_true rfl), (Nat.le_of_ble_eq_true rfl)⟩ (Nat.le_of_ble_eq_true rfl) ⟨by show cells + (8) ≤ 601024; omega, by show slots + (300) ≤ 7293034; omega⟩ dL_law_1015 ?_
  refine j_ex (fun w9 => j_and (fun hw9 => ?_))
  refine j_istore C0 dL_law_1018 (Nat.le_of_ble_eq_true rfl) rfl ?_
  refine j_aload_n C0 dL_law_1020 rfl ?_
  refine j_word C0 hX hbl hbA (k := 1) rfl (by omega) hLs rfl rfl dL_law_1021 dL_law_1022 dL_law_1024 dL_law_1025 dL_law_1026 ?_
  refine j_callVv C0 (As := [.int (xs (i5 + 1))]) (rest := []) (lw_kr (w := w9) (tE := tE) (c6 := c6) (D := D) (Y := Y) (E := EL (fun q => s.heap.size ≤ q) tE mi) ho hro (fun A' => k_X7_isReady hsl (A := A') (E := fun _ => True) c7 f g (xs (i5 + 1)) (zI_RI hz))) mv_X7_isReady wm_L_139 (lw_rec7 C0) rfl rfl ⟨(Nat.le_of_ble_eq_true rfl), (Nat.le_of_ble_eq_true rfl)⟩ (Nat.le_of_ble_eq_true rfl) ⟨by show cells + (8) + 0 ≤ 601024; omega, by show slots + (300) + 0 ≤ 7293034; omega⟩ dL_law_1027 ?_
  refine j_istore C0 dL_law_1030 (Nat.le_of_ble_eq_true rfl) rfl ?_
  refine j_aload_n C0 dL_law_1032 rfl ?_
  refine j_callVv C0 (As := []) (rest := []) (lw_kr (w := w9) (tE := tE) (c6 := c6) (D := D) (Y := Y) (E := EL (fun q => s.heap.size ≤ q) tE mi) ho hro (fun A' => k_X7_thrown hsl (A := A') (E := fun _ => True) c7 (sX7_isReady f g (xs (i5 + 1))).1 (sX7_isReady f g (xs (i5 + 1))).2)) mv_X7_thrown wm_L_94 (lw_rec7 C0) rfl rfl ⟨(Nat.le_of_ble_eq_true rfl), (Nat.le_of_ble_eq_true rfl)⟩ (Nat.le_of_ble_eq_true rfl) ⟨by show cells + (8) + 0 + 0 ≤ 601024; omega, by show slots + (300) + 0 + 0 ≤ 7293034; omega⟩ dL_law_1033 ?_
  refine j_iload C0 dL_law_1036 rfl ?_
  refine j_icmp_eq C0 1043 dL_law_1038 (by decide) (fun _ => ?_) (fun z => absurd rfl z)
  refine j_iload C0 dL_law_1043 rfl ?_
  have fin : J p l e room_1 s m args below meth cd (fun q => s.heap.size ≤ q) 7 Q9 (LW D Y s.heap.size tE o c6 c7 F G N Q (sX7_isReady f g (xs (i5 + 1))).1 (sX7_isReady f g (xs (i5 + 1))).2 w9) (cells + (8) + 0 + 0) (slots + (300) + 0 + 0) 1067 ([(0, .ref b), (1, .ref (c6 0)), (2, .ref (c7 0)), (3, .ref o), (4, .int (nI i5))] ++ [(5, .int ((sX7_isReady f g (xs (i5 + 1))).1 0)), (6, .int (vX7_isReady f g (xs (i5 + 1))))]) [] := by
    refine j_goto C0 1521 dL_law_1067 (by decide) ?_
    refine j_locals (L' := [(0, .ref b), (1, .ref (c6 0)), (2, .ref (c7 0)), (3, .ref o), (4, .int (nI i5))]) (fun q hq => List.mem_append_left _ hq) (lok_of rfl rfl) ?_
    exact j_widen (k := cells + (8 + 2 * (N 1 - N 1))) (n := slots + (300 + 165 * (N 1 - N 1))) (Nat.add_le_add_left (Nat.le_add_right 8 _) cells) (Nat.add_le_add_left (Nat.le_add_right 300 _) slots) (kk _ _ _ _ _ _ _ zi (Nat.le_refl _))
  refine j_if_ne C0 1067 dL_law_1045 (by decide) (fun _ => fin) (fun z0 => ?_)
  refine j_aload_n C0 dL_law_1048 rfl ?_
  refine j_iconst C0 dL_law_1049 (v := 0) rfl ?_
  refine j_laldO C0 (w := w9) dL_law_1050 (fun H h => h.2.2) ?_
  refine j_iload C0 dL_law_1051 rfl ?_
  refine j_if_eq C0 1060 dL_law_1053 (by decide) (fun y => ?_) (fun y => ?_)
  · refine j_lconst C0 dL_law_1060 (v := 0) rfl ?_
    refine j_lcmp C0 dL_law_1061 ?_
    exact j_if_eq C0 1067 dL_law_1062 (by decide) (fun _ => fin) (fun z => absurd (lg_cmp_0.mpr ((hw9 z0).trans (by rw [hv z0]; exact if_pos y))) z)
  · refine j_lconst C0 dL_law_1056 (v := 1) rfl ?_
    refine j_goto C0 1061 dL_law_1057 (by decide) ?_
    refine j_lcmp C0 dL_law_1061 ?_
    exact j_if_eq C0 1067 dL_law_1062 (by decide) (fun _ => fin) (fun z => absurd (lg_cmp_0.mpr ((hw9 z0).trans (by rw [hv z0]; exact if_neg y))) z)
theorem lc_tugs (hsl : l.stackTraces = false) (C0 : CX p l s m args meth cd RL cL_law 7 ret9 D Y (fun q => s.heap.size ≤ q) (EL (fun q => s.heap.size ≤ q) tE mi)) (hX : va_X b Ls xs s s.heap) (hbl : b < s.heap.size) (hLs : Ls ≤ 2560) (hi : i5 + 4 < Ls) (ho : s.heap.size ≤ o) (hro : o ∉ rL c7) (hc : cells + 300 ≤ 601024) (hs : slots + 17000 ≤ 7293034) (hz : zI F G N Q f g)
    (kk : ∀ (F' : Nat → Int32) (G' : Nat → Nat → Int32) (N' : Nat → Nat) (Q' : Nat → Nat → Nat) (f' : Nat → Int32) (g' : Nat → Nat → Int32) (w' : Int64), zI F' G' N' Q' f' g' → N 1 ≤ N' 1 → J p l e room_1 s m args below meth cd (fun q => s.heap.size ≤ q) 7 Q9 (LW D Y s.heap.size tE o c6 c7 F' G' N' Q' f' g' w') (cells + (8 + 2 * (N' 1 - N 1))) (slots + (300 + 165 * (N' 1 - N 1))) 1521 [(0, .ref b), (1, .ref (c6 0)), (2, .ref (c7 0)), (3, .ref o), (4, .int (nI i5))] []) :
    J p l e room_1 s m args below meth cd (fun q => s.heap.size ≤ q) 7 Q9 (LW D Y s.heap.size tE o c6 c7 F G N Q f g w) cells slots 1070 [(0, .ref b), (1, .ref (c6 0)), (2, .ref (c7 0)), (3, .ref o), (4, .int (nI i5))] [] := by
  have hbA : ¬ (fun q => s.heap.size ≤ q) b := Nat.not_le.mpr hbl
  obtain ⟨zx, zi⟩ := zf_tugs hz
  have hv : vX6_tugs F G N Q = vX7_tugs f g := by
    rcases zx with h | h
    · exact h.2.2
    · cases h
  refine j_aload_n C0 dL_law_1070 rfl ?_
  refine j_callVv C0 (As := []) (rest := []) (lw_kx (o := o) (c6 := c6) (c7 := c7) (f := f) (g := g) (w := w) (tE := tE) (mi := mi) (fun U h => h.1.narrow (fun q z => z.1.1)) (EC.closed _ tE mi) rfl (k_X6_tugs hsl (A := (fun q => (s.heap.size ≤ q ∧ q ∉ rL c7) ∧ q ≠ o)) (E := EC (fun q => (s.heap.size ≤ q ∧ q ∉ rL c7) ∧ q ≠ o) tE mi) (fun U h => h) c6 F G N Q)) mv_X6_tugs wm_L_140 (lw_rec6 C0) rfl rfl ⟨(Nat.le_of_ble_eq_true rfl), (Nat.le_of_ble_eq_true rfl)⟩ (Nat.le_of_ble_eq_true rfl) ⟨by show cells + 8 ≤ 601024; omega, by show slots + 300 ≤ 7293034; omega⟩ dL_law_1071 ?_
  refine j_aload_n C0 dL_law_1074 rfl ?_
  refine j_callVv C0 (As := []) (rest := [.int (vX6_tugs F G N Q)]) (lw_kr (F := F) (G := G) (N := N) (Q := Q) (w := w) (tE := tE) (c6 := c6) (D := D) (Y := Y) (E := EL (fun q => s.heap.size ≤ q) tE mi) ho hro (fun A' => k_X7_tugs hsl (A := A') (E := fun _ => True) c7 f g (zI_RI hz))) mv_X7_tugs wm_L_143 (lw_rec7 C0) rfl rfl ⟨(Nat.le_of_ble_eq_true rfl), (Nat.le_of_ble_eq_true rfl)⟩ (Nat.le_of_ble_eq_true rfl) ⟨by show cells + 8 + 0 ≤ 601024; omega, by show slots + 300 + 0 ≤ 7293034; omega⟩ dL_law_1075 ?_
  refine j_icmp_eq C0 1521 dL_law_1078 (by decide) (fun _ => ?_) (fun z => absurd hv z)
  exact j_widen (k := cells + (8 + 2 * (N 1 - N 1))) (n := slots + (300 + 165 * (N 1 - N 1))) (Nat.add_le_add_left (Nat.le_add_right 8 _) cells) (Nat.add_le_add_left (Nat.le_add_right 300 _) slots) (kk _ _ _ _ _ _ _ zi (Nat.le_refl _))
theorem lc_moves (hsl : l.stackTraces = false) (C0 : CX p l s m args meth cd RL cL_law 7 ret9 D Y (fun q => s.heap.size ≤ q) (EL (fun q => s.heap.size ≤ q) tE mi)) (hX : va_X b Ls xs s s.heap) (hbl : b < s.heap.size) (hLs : Ls ≤ 2560) (hi : i5 + 4 < Ls) (ho : s.heap.size ≤ o) (hro : o ∉ rL c7) (hc : cells + 300 ≤ 601024) (hs : slots + 17000 ≤ 7293034) (hz : zI F G N Q f g)
    (kk : ∀ (F' : Nat → Int32) (G' : Nat → Nat → Int32) (N' : Nat → Nat) (Q' : Nat → Nat → Nat) (f' : Nat → Int32) (g' : Nat → Nat → Int32) (w' : Int64), zI F' G' N' Q' f' g' → N 1 ≤ N' 1 → J p l e room_1 s m args below meth cd (fun q => s.heap.size ≤ q) 7 Q9 (LW D Y s.heap.size tE o c6 c7 F' G' N' Q' f' g' w') (cells + (8 + 2 * (N' 1 - N 1))) (slots + (300 + 165 * (N' 1 - N 1))) 1521 [(0, .ref b), (1, .ref (c6 0)), (2, .ref (c7 0)), (3, .ref o), (4, .int (nI i5))] []) :
    J p l e room_1 s m args below meth cd (fun q => s.heap.size ≤ q) 7 Q9 (LW D Y s.heap.size tE o c6 c7 F G N Q f g w) cells slots 1083 [(0, .ref b), (1, .ref (c6 0)), (2, .ref (c7 0)), (3, .ref o), (4, .int (nI i5))] [] := by
  have hbA : ¬ (fun q => s.heap.size ≤ q) b := Nat.not_le.mpr hbl
  obtain ⟨zx, zi⟩ := zf_moves hz
  have hv : vX6_moves F G N Q = vX7_moves f g := by
    rcases zx with h | h
    · exact h.2.2
    · cases h
  refine j_aload_n C0 dL_law_1083 rfl ?_
  refine j_callVv C0 (As := []) (rest := []) (lw_kx (o := o) (c6 := c6) (c7 := c7) (f := f) (g := g) (w := w) (tE := tE) (mi := mi) (fun U h => h.1.narrow (fun q z => z.1.1)) (EC.closed _ tE mi) rfl (k_X6_moves hsl (A := (fun q => (s.heap.size ≤ q ∧ q ∉ rL c7) ∧ q ≠ o)) (E := EC (fun q => (s.heap.size ≤ q ∧ q ∉ rL c7) ∧ q ≠ o) tE mi) (fun U h => h) c6 F G N Q)) mv_X6_moves wm_L_144 (lw_rec6 C0) rfl rfl ⟨(Nat.le_of_ble_eq_true rfl), (Nat.le_of_ble_eq_true rfl)⟩ (Nat.le_of_ble_eq_true rfl) ⟨by show cells + 8 ≤ 601024; omega, by show slots + 300 ≤ 7293034; omega⟩ dL_law_1084 ?_
  refine j_aload_n C0 dL_law_1087 rfl ?_
  refine j_callVv C0 (As := []) (rest := [.int (vX6_moves F G N Q)]) (lw_kr (F := F) (G := G) (N := N) (Q := Q) (w := w) (tE := tE) (c6 := c6) (D := D) (Y := Y) (E := EL (fun q => s.heap.size ≤ q) tE mi) ho hro (fun A' => k_X7_moves hsl (A := A') (E := fun _ => True) c7 f g (zI_RI hz))) mv_X7_moves wm_L_147 (lw_rec7 C0) rfl rfl ⟨(Nat.le_of_ble_eq_true rfl), (Nat.le_of_ble_eq_true rfl)⟩ (Nat.le_of_ble_eq_true rfl) ⟨by show cells + 8 + 0 ≤ 601024; omega, by show slots + 300 + 0 ≤ 7293034; omega⟩ dL_law_1088 ?_
  refine j_icmp_eq C0 1521 dL_law_1091 (by decide) (fun _ => ?_) (fun z => absurd hv z)
  exact j_widen (k := cells + (8 + 2 * (N 1 - N 1))) (n := slots + (300 + 165 * (N 1 - N 1))) (Nat.add_le_add_left (Nat.le_add_right 8 _) cells) (Nat.add_le_add_left (Nat.le_add_right 300 _) slots) (kk _ _ _ _ _ _ _ zi (Nat.le_refl _))
theorem lc_move (hsl : l.stackTraces = false) (C0 : CX p l s m args meth cd RL cL_law 7 ret9 D Y (fun q => s.heap.size ≤ q) (EL (fun q => s.heap.size ≤ q) tE mi)) (hX : va_X b Ls xs s s.heap) (hbl : b < s.heap.size) (hLs : Ls ≤ 2560) (hi : i5 + 4 < Ls) (ho : s.heap.size ≤ o) (hro : o ∉ rL c7) (hc : cells + 300 ≤ 601024) (hs : slots + 17000 ≤ 7293034) (hz : zI F G N Q f g)
    (kk : ∀ (F' : Nat → Int32) (G' : Nat → Nat → Int32) (N' : Nat → Nat) (Q' : Nat → Nat → Nat) (f' : Nat → Int32) (g' : Nat → Nat → Int32) (w' : Int64), zI F' G' N' Q' f' g' → N 1 ≤ N' 1 → J p l e room_1 s m args below meth cd (fun q => s.heap.size ≤ q) 7 Q9 (LW D Y s.heap.size tE o c6 c7 F' G' N' Q' f' g' w') (cells + (8 + 2 * (N' 1 - N 1))) (slots + (300 + 165 * (N' 1 - N 1))) 1521 [(0, .ref b), (1, .ref (c6 0)), (2, .ref (c7 0)), (3, .ref o), (4, .int (nI i5))] []) :
    J p l e room_1 s m args below meth cd (fun q => s.heap.size ≤ q) 7 Q9 (LW D Y s.heap.size tE o c6 c7 F G N Q f g w) cells slots 1096 [(0, .ref b), (1, .ref (c6 0)), (2, .ref (c7 0)), (3, .ref o), (4, .int (nI i5))] [] := by
  have hbA : ¬ (fun q => s.heap.size ≤ q) b := Nat.not_le.mpr hbl
  obtain ⟨zx, zi⟩ := zf_move (xs (i5 + 1)) hz
  have hzz : (eX6_move F G N Q (xs (i5 + 1)) = 0 ∧ (sX7_move f g (xs (i5 + 1))).1 0 = 0) ∨ (eX6_move F G N Q (xs (i5 + 1)), (sX7_move f g (xs (i5 + 1))).1 0) ∈ ([(1, 1)] : List (Nat × Int32)) := zx.imp (fun h => ⟨h.1, h.2.1⟩) id
  have hv : (sX7_move f g (xs (i5 + 1))).1 0 = 0 → vX6_move F G N Q (xs (i5 + 1)) = vX7_move f g (xs (i5 + 1)) := by
    intro h0
    rcases zx with h | h
    · exact h.2.2
    · rw [h0] at h
      simp at h
  refine j_aload_n C0 dL_law_1096 rfl ?_
  refine j_word C0 hX hbl hbA (k := 1) rfl (by omega) hLs rfl rfl dL_law_1097 dL_law_1098 dL_law_1100 dL_law_1101 dL_law_1102 ?_
  refine j_aload_n C0 dL_law_1103 rfl ?_
  refine j_callSW C0 (As := [.ref (c6 0), .int (xs (i5 + 1)), .ref o]) (rest := []) (lw_kw (P := fun w' => (sX7_move f g (xs (i5 + 1))).1 0 = 0 → w' = (vX6_move F G N Q (xs (i5 + 1))).toInt64) (f := f) (g := g) (kw_move hsl (A := (fun q => s.heap.size ≤ q ∧ q ∉ rL c7)) (E := EL (fun q => s.heap.size ≤ q ∧ q ∉ rL c7) tE mi) (fun U h => h) c6 F G N Q (xs (i5 + 1)) o ⟨ho, hro⟩ w ((sX7_move f g (xs (i5 + 1))).1 0) hzz)) msw_move wm_L_148 rfl rfl ⟨(Nat.le_of_ble_eq_true rfl), (Nat.le_of_ble_eq_true rfl)⟩ (Nat.le_of_ble_eq_true rfl) ⟨by show cells + (8) ≤ 601024; omega, by show slots + (300) ≤ 7293034; omega⟩ dL_law_1104 ?_
  refine j_ex (fun w9 => j_and (fun hw9 => ?_))
  refine j_istore C0 dL_law_1107 (Nat.le_of_ble_eq_true rfl) rfl ?_
  refine j_aload_n C0 dL_law_1109 rfl ?_
  refine j_word C0 hX hbl hbA (k := 1) rfl (by omega) hLs rfl rfl dL_law_1110 dL_law_1111 dL_law_1113 dL_law_1114 dL_law_1115 ?_
  refine j_callVv C0 (As := [.int (xs (i5 + 1))]) (rest := []) (lw_kr (w := w9) (tE := tE) (c6 := c6) (D := D) (Y := Y) (E := EL (fun q => s.heap.size ≤ q) tE mi) ho hro (fun A' => k_X7_move hsl (A := A') (E := fun _ => True) c7 f g (xs (i5 + 1)) (zI_RI hz))) mv_X7_move wm_L_150 (lw_rec7 C0) rfl rfl ⟨(Nat.le_of_ble_eq_true rfl), (Nat.le_of_ble_eq_true rfl)⟩ (Nat.le_of_ble_eq_true rfl) ⟨by show cells + (8) + 0 ≤ 601024; omega, by show slots + (300) + 0 ≤ 7293034; omega⟩ dL_law_1116 ?_
  refine j_istore C0 dL_law_1119 (Nat.le_of_ble_eq_true rfl) rfl ?_
  refine j_aload_n C0 dL_law_1121 rfl ?_
  refine j_callVv C0 (As := []) (rest := []) (lw_kr (w := w9) (tE := tE) (c6 := c6) (D := D) (Y := Y) (E := EL (fun q => s.heap.size ≤ q) tE mi) ho hro (fun A' => k_X7_thrown hsl (A := A') (E := fun _ => True) c7 (sX7_move f g (xs (i5 + 1))).1 (sX7_move f g (xs (i5 + 1))).2)) mv_X7_thrown wm_L_94 (lw_rec7 C0) rfl rfl ⟨(Nat.le_of_ble_eq_true rfl), (Nat.le_of_ble_eq_true rfl)⟩ (Nat.le_of_ble_eq_true rfl) ⟨by show cells + (8) + 0 + 0 ≤ 601024; omega, by show slots + (300) + 0 + 0 ≤ 7293034; omega⟩ dL_law_1122 ?_
  refine j_iload C0 dL_law_1125 rfl ?_
  refine j_icmp_eq C0 1132 dL_law_1127 (by decide) (fun _ => ?_) (fun z => absurd rfl z)
  refine j_iload C0 dL_law_1132 rfl ?_
  have fin : J p l e room_1 s m args below meth cd (fun q => s.heap.size ≤ q) 7 Q9 (LW D Y s.heap.size tE o c6 c7 F G N Q (sX7_move f g (xs (i5 + 1))).1 (sX7_move f g (xs (i5 + 1))).2 w9) (cells + (8) + 0 + 0) (slots + (300) + 0 + 0) 1149 ([(0, .ref b), (1, .ref (c6 0)), (2, .ref (c7 0)), (3, .ref o), (4, .int (nI i5))] ++ [(5, .int ((sX7_move f g (xs (i5 + 1))).1 0)), (6, .int (vX7_move f g (xs (i5 + 1))))]) [] := by
    refine j_goto C0 1521 dL_law_1149 (by decide) ?_
    refine j_locals (L' := [(0, .ref b), (1, .ref (c6 0)), (2, .ref (c7 0)), (3, .ref o), (4, .int (nI i5))]) (fun q hq => List.mem_append_left _ hq) (lok_of rfl rfl) ?_
    exact j_widen (k := cells + (8 + 2 * (N 1 - N 1))) (n := slots + (300 + 165 * (N 1 - N 1))) (Nat.add_le_add_left (Nat.le_add_right 8 _) cells) (Nat.add_le_add_left (Nat.le_add_right 300 _) slots) (kk _ _ _ _ _ _ _ zi (Nat.le_refl _))
  refine j_if_ne C0 1149 dL_law_1134 (by decide) (fun _ => fin) (fun z0 => ?_)
  refine j_aload_n C0 dL_law_1137 rfl ?_
  refine j_iconst C0 dL_law_1138 (v := 0) rfl ?_
  refine j_laldO C0 (w := w9) dL_law_1139 (fun H h => h.2.2) ?_
  refine j_iload C0 dL_law_1140 rfl ?_
  refine j_i2l C0 dL_law_1142 (v := (vX7_move f g (xs (i5 + 1))).toInt64) rfl ?_
  refine j_lcmp C0 dL_law_1143 ?_
  exact j_if_eq C0 1149 dL_law_1144 (by decide) (fun _ => fin) (fun z => absurd (lg_cmp_0.mpr ((hw9 z0).trans (by rw [hv z0]))) z)
theorem lc_isSound (hsl : l.stackTraces = false) (C0 : CX p l s m args meth cd RL cL_law 7 ret9 D Y (fun q => s.heap.size ≤ q) (EL (fun q => s.heap.size ≤ q) tE mi)) (hX : va_X b Ls xs s s.heap) (hbl : b < s.heap.size) (hLs : Ls ≤ 2560) (hi : i5 + 4 < Ls) (ho : s.heap.size ≤ o) (hro : o ∉ rL c7) (hc : cells + 300 ≤ 601024) (hs : slots + 17000 ≤ 7293034) (hz : zI F G N Q f g)
    (kk : ∀ (F' : Nat → Int32) (G' : Nat → Nat → Int32) (N' : Nat → Nat) (Q' : Nat → Nat → Nat) (f' : Nat → Int32) (g' : Nat → Nat → Int32) (w' : Int64), zI F' G' N' Q' f' g' → N 1 ≤ N' 1 → J p l e room_1 s m args below meth cd (fun q => s.heap.size ≤ q) 7 Q9 (LW D Y s.heap.size tE o c6 c7 F' G' N' Q' f' g' w') (cells + (8 + 2 * (N' 1 - N 1))) (slots + (300 + 165 * (N' 1 - N 1))) 1521 [(0, .ref b), (1, .ref (c6 0)), (2, .ref (c7 0)), (3, .ref o), (4, .int (nI i5))] []) :
    J p l e room_1 s m args below meth cd (fun q => s.heap.size ≤ q) 7 Q9 (LW D Y s.heap.size tE o c6 c7 F G N Q f g w) cells slots 1152 [(0, .ref b), (1, .ref (c6 0)), (2, .ref (c7 0)), (3, .ref o), (4, .int (nI i5))] [] := by
  have hbA : ¬ (fun q => s.heap.size ≤ q) b := Nat.not_le.mpr hbl
  obtain ⟨zx, zi⟩ := zf_isSound (xs (i5 + 1)) hz
  have hzz : (eX6_isSound F G N Q (xs (i5 + 1)) = 0 ∧ (sX7_isSound f g (xs (i5 + 1))).1 0 = 0) ∨ (eX6_isSound F G N Q (xs (i5 + 1)), (sX7_isSound f g (xs (i5 + 1))).1 0) ∈ ([(1, 1)] : List (Nat × Int32)) := zx.imp (fun h => ⟨h.1, h.2.1⟩) id
  have hv : (sX7_isSound f g (xs (i5 + 1))).1 0 = 0 → vX6_isSound F G N Q (xs (i5 + 1)) = vX7_isSound f g (xs (i5 + 1)) := by
    intro h0
    rcases zx with h | h
    · exact h.2.2
    · rw [h0] at h
      simp at h
  refine j_aload_n C0 dL_law_1152 rfl ?_
  refine j_word C0 hX hbl hbA (k := 1) rfl (by omega) hLs rfl rfl dL_law_1153 dL_law_1154 dL_law_1156 dL_law_1157 dL_law_1158 ?_
  refine j_aload_n C0 dL_law_1159 rfl ?_
  refine j_callSW C0 (As := [.ref (c6 0), .int (xs (i5 + 1)), .ref o]) (rest := []) (lw_kw (P := fun w' => (sX7_isSound f g (xs (i5 + 1))).1 0 = 0 → w' = (if vX6_isSound F G N Q (xs (i5 + 1)) = 0 then 0 else 1)) (f := f) (g := g) (kw_isSound hsl (A := (fun q => s.heap.size ≤ q ∧ q ∉ rL c7)) (E := EL (fun q => s.heap.size ≤ q ∧ q ∉ rL c7) tE mi) (fun U h => h) c6 F G N Q (xs (i5 + 1)) (zI_hb hz) (zI_hmh hz) o ⟨ho, hro⟩ w ((sX7_isSound f g (xs (i5 + 1))).1 0) hzz)) msw_isSound wm_L_151 rfl rfl ⟨(Nat.le_of_ble_eq_true rfl), (Nat.le_of_ble_eq_true rfl)⟩ (Nat.le_of_ble_eq_true rfl) ⟨by show cells + (8) ≤ 601024; omega, by show slots + (300) ≤ 7293034; omega⟩ dL_law_1160 ?_
  refine j_ex (fun w9 => j_and (fun hw9 => ?_))
  refine j_istore C0 dL_law_1163 (Nat.le_of_ble_eq_true rfl) rfl ?_
  refine j_aload_n C0 dL_law_1165 rfl ?_
  refine j_word C0 hX hbl hbA (k := 1) rfl (by omega) hLs rfl rfl dL_law_1166 dL_law_1167 dL_law_1169 dL_law_1170 dL_law_1171 ?_
  refine j_callVv C0 (As := [.int (xs (i5 + 1))]) (rest := []) (lw_kr (w := w9) (tE := tE) (c6 := c6) (D := D) (Y := Y) (E := EL (fun q => s.heap.size ≤ q) tE mi) ho hro (fun A' => k_X7_isSound hsl (A := A') (E := fun _ => True) c7 f g (xs (i5 + 1)) (zI_RI hz))) mv_X7_isSound wm_L_153 (lw_rec7 C0) rfl rfl ⟨(Nat.le_of_ble_eq_true rfl), (Nat.le_of_ble_eq_true rfl)⟩ (Nat.le_of_ble_eq_true rfl) ⟨by show cells + (8) + 0 ≤ 601024; omega, by show slots + (300) + 0 ≤ 7293034; omega⟩ dL_law_1172 ?_
  refine j_istore C0 dL_law_1175 (Nat.le_of_ble_eq_true rfl) rfl ?_
  refine j_aload_n C0 dL_law_1177 rfl ?_
  refine j_callVv C0 (As := []) (rest := []) (lw_kr (w := w9) (tE := tE) (c6 := c6) (D := D) (Y := Y) (E := EL (fun q => s.heap.size ≤ q) tE mi) ho hro (fun A' => k_X7_thrown hsl (A := A') (E := fun _ => True) c7 (sX7_isSound f g (xs (i5 + 1))).1 (sX7_isSound f g (xs (i5 + 1))).2)) mv_X7_thrown wm_L_94 (lw_rec7 C0) rfl rfl ⟨(Nat.le_of_ble_eq_true rfl), (Nat.le_of_ble_eq_true rfl)⟩ (Nat.le_of_ble_eq_true rfl) ⟨by show cells + (8) + 0 + 0 ≤ 601024; omega, by show slots + (300) + 0 + 0 ≤ 7293034; omega⟩ dL_law_1178 ?_
  refine j_iload C0 dL_law_1181 rfl ?_
  refine j_icmp_eq C0 1188 dL_law_1183 (by decide) (fun _ => ?_) (fun z => absurd rfl z)
  refine j_iload C0 dL_law_1188 rfl ?_
  have fin : J p l e room_1 s m args below meth cd (fun q => s.heap.size ≤ q) 7 Q9 (LW D Y s.heap.size tE o c6 c7 F G N Q (sX7_isSound f g (xs (i5 + 1))).1 (sX7_isSound f g (xs (i5 + 1))).2 w9) (cells + (8) + 0 + 0) (slots + (300) + 0 + 0) 1212 ([(0, .ref b), (1, .ref (c6 0)), (2, .ref (c7 0)), (3, .ref o), (4, .int (nI i5))] ++ [(5, .int ((sX7_isSound f g (xs (i5 + 1))).1 0)), (6, .int (vX7_isSound f g (xs (i5 + 1))))]) [] := by
    refine j_goto C0 1521 dL_law_1212 (by decide) ?_
    refine j_locals (L' := [(0, .ref b), (1, .ref (c6 0)), (2, .ref (c7 0)), (3, .ref o), (4, .int (nI i5))]) (fun q hq => List.mem_append_left _ hq) (lok_of rfl rfl) ?_
    exact j_widen (k := cells + (8 + 2 * (N 1 - N 1))) (n := slots + (300 + 165 * (N 1 - N 1))) (Nat.add_le_add_left (Nat.le_add_right 8 _) cells) (Nat.add_le_add_left (Nat.le_add_right 300 _) slots) (kk _ _ _ _ _ _ _ zi (Nat.le_refl _))
  refine j_if_ne C0 1212 dL_law_1190 (by decide) (fun _ => fin) (fun z0 => ?_)
  refine j_aload_n C0 dL_law_1193 rfl ?_
  refine j_iconst C0 dL_law_1194 (v := 0) rfl ?_
  refine j_laldO C0 (w := w9) dL_law_1195 (fun H h => h.2.2) ?_
  refine j_iload C0 dL_law_1196 rfl ?_
  refine j_if_eq C0 1205 dL_law_1198 (by decide) (fun y => ?_) (fun y => ?_)
  · refine j_lconst C0 dL_law_1205 (v := 0) rfl ?_
    refine j_lcmp C0 dL_law_1206 ?_
    exact j_if_eq C0 1212 dL_law_1207 (by decide) (fun _ => fin) (fun z => absurd (lg_cmp_0.mpr ((hw9 z0).trans (by rw [hv z0]; exact if_pos y))) z)
  · refine j_lconst C0 dL_law_1201 (v := 1) rfl ?_
    refine j_goto C0 1206 dL_law_1202 (by decide) ?_
    refine j_lcmp C0 dL_law_1206 ?_
    exact j_if_eq C0 1212 dL_law_1207 (by decide) (fun _ => fin) (fun z => absurd (lg_cmp_0.mpr ((hw9 z0).trans (by rw [hv z0]; exact if_neg y))) z)
theorem lc_paid (hsl : l.stackTraces = false) (C0 : CX p l s m args meth cd RL cL_law 7 ret9 D Y (fun q => s.heap.size ≤ q) (EL (fun q => s.heap.size ≤ q) tE mi)) (hX : va_X b Ls xs s s.heap) (hbl : b < s.heap.size) (hLs : Ls ≤ 2560) (hi : i5 + 4 < Ls) (ho : s.heap.size ≤ o) (hro : o ∉ rL c7) (hc : cells + 300 ≤ 601024) (hs : slots + 17000 ≤ 7293034) (hz : zI F G N Q f g)
    (kk : ∀ (F' : Nat → Int32) (G' : Nat → Nat → Int32) (N' : Nat → Nat) (Q' : Nat → Nat → Nat) (f' : Nat → Int32) (g' : Nat → Nat → Int32) (w' : Int64), zI F' G' N' Q' f' g' → N 1 ≤ N' 1 → J p l e room_1 s m args below meth cd (fun q => s.heap.size ≤ q) 7 Q9 (LW D Y s.heap.size tE o c6 c7 F' G' N' Q' f' g' w') (cells + (8 + 2 * (N' 1 - N 1))) (slots + (300 + 165 * (N' 1 - N 1))) 1521 [(0, .ref b), (1, .ref (c6 0)), (2, .ref (c7 0)), (3, .ref o), (4, .int (nI i5))] []) :
    J p l e room_1 s m args below meth cd (fun q => s.heap.size ≤ q) 7 Q9 (LW D Y s.heap.size tE o c6 c7 F G N Q f g w) cells slots 1215 [(0, .ref b), (1, .ref (c6 0)), (2, .ref (c7 0)), (3, .ref o), (4, .int (nI i5))] [] := by
  have hbA : ¬ (fun q => s.heap.size ≤ q) b := Nat.not_le.mpr hbl
  obtain ⟨zx, zi⟩ := zf_paid (xs (i5 + 1)) hz
  have hzz : (eX6_paid F G N Q (xs (i5 + 1)) = 0 ∧ (sX7_paid f g (xs (i5 + 1))).1 0 = 0) ∨ (eX6_paid F G N Q (xs (i5 + 1)), (sX7_paid f g (xs (i5 + 1))).1 0) ∈ ([(1, 1)] : List (Nat × Int32)) := zx.imp (fun h => ⟨h.1, h.2.1⟩) id
  have hv : (sX7_paid f g (xs (i5 + 1))).1 0 = 0 → vX6_paid F G N Q (xs (i5 + 1)) = vX7_paid f g (xs (i5 + 1)) := by
    intro h0
    rcases zx with h | h
    · exact h.2.2
    · rw [h0] at h
      simp at h
  refine j_aload_n C0 dL_law_1215 rfl ?_
  refine j_word C0 hX hbl hbA (k := 1) rfl (by omega) hLs rfl rfl dL_law_1216 dL_law_1217 dL_law_1219 dL_law_1220 dL_law_1221 ?_
  refine j_aload_n C0 dL_law_1222 rfl ?_
  refine j_callSW C0 (As := [.ref (c6 0), .int (xs (i5 + 1)), .ref o]) (rest := []) (lw_kw (P := fun w' => (sX7_paid f g (xs (i5 + 1))).1 0 = 0 → w' = (vX6_paid F G N Q (xs (i5 + 1))).toInt64) (f := f) (g := g) (kw_paid hsl (A := (fun q => s.heap.size ≤ q ∧ q ∉ rL c7)) (E := EL (fun q => s.heap.size ≤ q ∧ q ∉ rL c7) tE mi) (fun U h => h) c6 F G N Q (xs (i5 + 1)) o ⟨ho, hro⟩ w ((sX7_paid f g (xs (i5 + 1))).1 0) hzz)) msw_paid wm_L_154 rfl rfl ⟨(Nat.le_of_ble_eq_true rfl), (Nat.le_of_ble_eq_true rfl)⟩ (Nat.le_of_ble_eq_true rfl) ⟨by show cells + (8) ≤ 601024; omega, by show slots + (300) ≤ 7293034; omega⟩ dL_law_1223 ?_
  refine j_ex (fun w9 => j_and (fun hw9 => ?_))
  refine j_istore C0 dL_law_1226 (Nat.le_of_ble_eq_true rfl) rfl ?_
  refine j_aload_n C0 dL_law_1228 rfl ?_
  refine j_word C0 hX hbl hbA (k := 1) rfl (by omega) hLs rfl rfl dL_law_1229 dL_law_1230 dL_law_1232 dL_law_1233 dL_law_1234 ?_
  refine j_callVv C0 (As := [.int (xs (i5 + 1))]) (rest := []) (lw_kr (w := w9) (tE := tE) (c6 := c6) (D := D) (Y := Y) (E := EL (fun q => s.heap.size ≤ q) tE mi) ho hro (fun A' => k_X7_paid hsl (A := A') (E := fun _ => True) c7 f g (xs (i5 + 1)) (zI_RI hz))) mv_X7_paid wm_L_156 (lw_rec7 C0) rfl rfl ⟨(Nat.le_of_ble_eq_true rfl), (Nat.le_of_ble_eq_true rfl)⟩ (Nat.le_of_ble_eq_true rfl) ⟨by show cells + (8) + 0 ≤ 601024; omega, by show slots + (300) + 0 ≤ 7293034; omega⟩ dL_law_1235 ?_
  refine j_istore C0 dL_law_1238 (Nat.le_of_ble_eq_true rfl) rfl ?_
  refine j_aload_n C0 dL_law_1240 rfl ?_
  refine j_callVv C0 (As := []) (rest := []) (lw_kr (w := w9) (tE := tE) (c6 := c6) (D := D) (Y := Y) (E := EL (fun q => s.heap.size ≤ q) tE mi) ho hro (fun A' => k_X7_thrown hsl (A := A') (E := fun _ => True) c7 (sX7_paid f g (xs (i5 + 1))).1 (sX7_paid f g (xs (i5 + 1))).2)) mv_X7_thrown wm_L_94 (lw_rec7 C0) rfl rfl ⟨(Nat.le_of_ble_eq_true rfl), (Nat.le_of_ble_eq_true rfl)⟩ (Nat.le_of_ble_eq_true rfl) ⟨by show cells + (8) + 0 + 0 ≤ 601024; omega, by show slots + (300) + 0 + 0 ≤ 7293034; omega⟩ dL_law_1241 ?_
  refine j_iload C0 dL_law_1244 rfl ?_
  refine j_icmp_eq C0 1251 dL_law_1246 (by decide) (fun _ => ?_) (fun z => absurd rfl z)
  refine j_iload C0 dL_law_1251 rfl ?_
  have fin : J p l e room_1 s m args below meth cd (fun q => s.heap.size ≤ q) 7 Q9 (LW D Y s.heap.size tE o c6 c7 F G N Q (sX7_paid f g (xs (i5 + 1))).1 (sX7_paid f g (xs (i5 + 1))).2 w9) (cells + (8) + 0 + 0) (slots + (300) + 0 + 0) 1268 ([(0, .ref b), (1, .ref (c6 0)), (2, .ref (c7 0)), (3, .ref o), (4, .int (nI i5))] ++ [(5, .int ((sX7_paid f g (xs (i5 + 1))).1 0)), (6, .int (vX7_paid f g (xs (i5 + 1))))]) [] := by
    refine j_goto C0 1521 dL_law_1268 (by decide) ?_
    refine j_locals (L' := [(0, .ref b), (1, .ref (c6 0)), (2, .ref (c7 0)), (3, .ref o), (4, .int (nI i5))]) (fun q hq => List.mem_append_left _ hq) (lok_of rfl rfl) ?_
    exact j_widen (k := cells + (8 + 2 * (N 1 - N 1))) (n := slots + (300 + 165 * (N 1 - N 1))) (Nat.add_le_add_left (Nat.le_add_right 8 _) cells) (Nat.add_le_add_left (Nat.le_add_right 300 _) slots) (kk _ _ _ _ _ _ _ zi (Nat.le_refl _))
  refine j_if_ne C0 1268 dL_law_1253 (by decide) (fun _ => fin) (fun z0 => ?_)
  refine j_aload_n C0 dL_law_1256 rfl ?_
  refine j_iconst C0 dL_law_1257 (v := 0) rfl ?_
  refine j_laldO C0 (w := w9) dL_law_1258 (fun H h => h.2.2) ?_
  refine j_iload C0 dL_law_1259 rfl ?_
  refine j_i2l C0 dL_law_1261 (v := (vX7_paid f g (xs (i5 + 1))).toInt64) rfl ?_
  refine j_lcmp C0 dL_law_1262 ?_
  exact j_if_eq C0 1268 dL_law_1263 (by decide) (fun _ => fin) (fun z => absurd (lg_cmp_0.mpr ((hw9 z0).trans (by rw [hv z0]))) z)
theorem lc_earned (hsl : l.stackTraces = false) (C0 : CX p l s m args meth cd RL cL_law 7 ret9 D Y (fun q => s.heap.size ≤ q) (EL (fun q => s.heap.size ≤ q) tE mi)) (hX : va_X b Ls xs s s.heap) (hbl : b < s.heap.size) (hLs : Ls ≤ 2560) (hi : i5 + 4 < Ls) (ho : s.heap.size ≤ o) (hro : o ∉ rL c7) (hc : cells + 300 ≤ 601024) (hs : slots + 17000 ≤ 7293034) (hz : zI F G N Q f g)
    (kk : ∀ (F' : Nat → Int32) (G' : Nat → Nat → Int32) (N' : Nat → Nat) (Q' : Nat → Nat → Nat) (f' : Nat → Int32) (g' : Nat → Nat → Int32) (w' : Int64), zI F' G' N' Q' f' g' → N 1 ≤ N' 1 → J p l e room_1 s m args below meth cd (fun q => s.heap.size ≤ q) 7 Q9 (LW D Y s.heap.size tE o c6 c7 F' G' N' Q' f' g' w') (cells + (8 + 2 * (N' 1 - N 1))) (slots + (300 + 165 * (N' 1 - N 1))) 1521 [(0, .ref b), (1, .ref (c6 0)), (2, .ref (c7 0)), (3, .ref o), (4, .int (nI i5))] []) :
    J p l e room_1 s m args below meth cd (fun q => s.heap.size ≤ q) 7 Q9 (LW D Y s.heap.size tE o c6 c7 F G N Q f g w) cells slots 1271 [(0, .ref b), (1, .ref (c6 0)), (2, .ref (c7 0)), (3, .ref o), (4, .int (nI i5))] [] := by
  have hbA : ¬ (fun q => s.heap.size ≤ q) b := Nat.not_le.mpr hbl
  obtain ⟨zx, zi⟩ := zf_earned (xs (i5 + 1)) hz
  have hzz : (eX6_earned F G N Q (xs (i5 + 1)) = 0 ∧ (sX7_earned f g (xs (i5 + 1))).1 0 = 0) ∨ (eX6_earned F G N Q (xs (i5 + 1)), (sX7_earned f g (xs (i5 + 1))).1 0) ∈ ([(1, 1)] : List (Nat × Int32)) := zx.imp (fun h => ⟨h.1, h.2.1⟩) id
  have hv : (sX7_earned f g (xs (i5 + 1))).1 0 = 0 → vX6_earned F G N Q (xs (i5 + 1)) = vX7_earned f g (xs (i5 + 1)) := by
    intro h0
    rcases zx with h | h
    · exact h.2.2
    · rw [h0] at h
      simp at h
  refine j_aload_n C0 dL_law_1271 rfl ?_
  refine j_word C0 hX hbl hbA (k := 1) rfl (by omega) hLs rfl rfl dL_law_1272 dL_law_1273 dL_law_1275 dL_law_1276 dL_law_1277 ?_
  refine j_aload_n C0 dL_law_1278 rfl ?_
  refine j_callSW C0 (As := [.ref (c6 0), .int (xs (i5 + 1)), .ref o]) (rest := []) (lw_kw (P := fun w' => (sX7_earned f g (xs (i5 + 1))).1 0 = 0 → w' = (vX6_earned F G N Q (xs (i5 + 1))).toInt64) (f := f) (g := g) (kw_earned hsl (A := (fun q => s.heap.size ≤ q ∧ q ∉ rL c7)) (E := EL (fun q => s.heap.size ≤ q ∧ q ∉ rL c7) tE mi) (fun U h => h) c6 F G N Q (xs (i5 + 1)) o ⟨ho, hro⟩ w ((sX7_earned f g (xs (i5 + 1))).1 0) hzz)) msw_earned wm_L_157 rfl rfl ⟨(Nat.le_of_ble_eq_true rfl), (Nat.le_of_ble_eq_true rfl)⟩ (Nat.le_of_ble_eq_true rfl) ⟨by show cells + (8) ≤ 601024; omega, by show slots + (300) ≤ 7293034; omega⟩ dL_law_1279 ?_
  refine j_ex (fun w9 => j_and (fun hw9 => ?_))
  refine j_istore C0 dL_law_1282 (Nat.le_of_ble_eq_true rfl) rfl ?_
  refine j_aload_n C0 dL_law_1284 rfl ?_
  refine j_word C0 hX hbl hbA (k := 1) rfl (by omega) hLs rfl rfl dL_law_1285 dL_law_1286 dL_law_1288 dL_law_1289 dL_law_1290 ?_
  refine j_callVv C0 (As := [.int (xs (i5 + 1))]) (rest := []) (lw_kr (w := w9) (tE := tE) (c6 := c6) (D := D) (Y := Y) (E := EL (fun q => s.heap.size ≤ q) tE mi) ho hro (fun A' => k_X7_earned hsl (A := A') (E := fun _ => True) c7 f g (xs (i5 + 1)) (zI_RI hz))) mv_X7_earned wm_L_159 (lw_rec7 C0) rfl rfl ⟨(Nat.le_of_ble_eq_true rfl), (Nat.le_of_ble_eq_true rfl)⟩ (Nat.le_of_ble_eq_true rfl) ⟨by show cells + (8) + 0 ≤ 601024; omega, by show slots + (300) + 0 ≤ 7293034; omega⟩ dL_law_1291 ?_
  refine j_istore C0 dL_law_1294 (Nat.le_of_ble_eq_true rfl) rfl ?_
  refine j_aload_n C0 dL_law_1296 rfl ?_
  refine j_callVv C0 (As := []) (rest := []) (lw_kr (w := w9) (tE := tE) (c6 := c6) (D := D) (Y := Y) (E := EL (fun q => s.heap.size ≤ q) tE mi) ho hro (fun A' => k_X7_thrown hsl (A := A') (E := fun _ => True) c7 (sX7_earned f g (xs (i5 + 1))).1 (sX7_earned f g (xs (i5 + 1))).2)) mv_X7_thrown wm_L_94 (lw_rec7 C0) rfl rfl ⟨(Nat.le_of_ble_eq_true rfl), (Nat.le_of_ble_eq_true rfl)⟩ (Nat.le_of_ble_eq_true rfl) ⟨by show cells + (8) + 0 + 0 ≤ 601024; omega, by show slots + (300) + 0 + 0 ≤ 7293034; omega⟩ dL_law_1297 ?_
  refine j_iload C0 dL_law_1300 rfl ?_
  refine j_icmp_eq C0 1307 dL_law_1302 (by decide) (fun _ => ?_) (fun z => absurd rfl z)
  refine j_iload C0 dL_law_1307 rfl ?_
  have fin : J p l e room_1 s m args below meth cd (fun q => s.heap.size ≤ q) 7 Q9 (LW D Y s.heap.size tE o c6 c7 F G N Q (sX7_earned f g (xs (i5 + 1))).1 (sX7_earned f g (xs (i5 + 1))).2 w9) (cells + (8) + 0 + 0) (slots + (300) + 0 + 0) 1324 ([(0, .ref b), (1, .ref (c6 0)), (2, .ref (c7 0)), (3, .ref o), (4, .int (nI i5))] ++ [(5, .int ((sX7_earned f g (xs (i5 + 1))).1 0)), (6, .int (vX7_earned f g (xs (i5 + 1))))]) [] := by
    refine j_goto C0 1521 dL_law_1324 (by decide) ?_
    refine j_locals (L' := [(0, .ref b), (1, .ref (c6 0)), (2, .ref (c7 0)), (3, .ref o), (4, .int (nI i5))]) (fun q hq => List.mem_append_left _ hq) (lok_of rfl rfl) ?_
    exact j_widen (k := cells + (8 + 2 * (N 1 - N 1))) (n := slots + (300 + 165 * (N 1 - N 1))) (Nat.add_le_add_left (Nat.le_add_right 8 _) cells) (Nat.add_le_add_left (Nat.le_add_right 300 _) slots) (kk _ _ _ _ _ _ _ zi (Nat.le_refl _))
  refine j_if_ne C0 1324 dL_law_1309 (by decide) (fun _ => fin) (fun z0 => ?_)
  refine j_aload_n C0 dL_law_1312 rfl ?_
  refine j_iconst C0 dL_law_1313 (v := 0) rfl ?_
  refine j_laldO C0 (w := w9) dL_law_1314 (fun H h => h.2.2) ?_
  refine j_iload C0 dL_law_1315 rfl ?_
  refine j_i2l C0 dL_law_1317 (v := (vX7_earned f g (xs (i5 + 1))).toInt64) rfl ?_
  refine j_lcmp C0 dL_law_1318 ?_
  exact j_if_eq C0 1324 dL_law_1319 (by decide) (fun _ => fin) (fun z => absurd (lg_cmp_0.mpr ((hw9 z0).trans (by rw [hv z0]))) z)
theorem lc_tugPay (hsl : l.stackTraces = false) (C0 : CX p l s m args meth cd RL cL_law 7 ret9 D Y (fun q => s.heap.size ≤ q) (EL (fun q => s.heap.size ≤ q) tE mi)) (hX : va_X b Ls xs s s.heap) (hbl : b < s.heap.size) (hLs : Ls ≤ 2560) (hi : i5 + 4 < Ls) (ho : s.heap.size ≤ o) (hro : o ∉ rL c7) (hc : cells + 300 ≤ 601024) (hs : slots + 17000 ≤ 7293034) (hz : zI F G N Q f g)
    (kk : ∀ (F' : Nat → Int32) (G' : Nat → Nat → Int32) (N' : Nat → Nat) (Q' : Nat → Nat → Nat) (f' : Nat → Int32) (g' : Nat → Nat → Int32) (w' : Int64), zI F' G' N' Q' f' g' → N 1 ≤ N' 1 → J p l e room_1 s m args below meth cd (fun q => s.heap.size ≤ q) 7 Q9 (LW D Y s.heap.size tE o c6 c7 F' G' N' Q' f' g' w') (cells + (8 + 2 * (N' 1 - N 1))) (slots + (300 + 165 * (N' 1 - N 1))) 1521 [(0, .ref b), (1, .ref (c6 0)), (2, .ref (c7 0)), (3, .ref o), (4, .int (nI i5))] []) :
    J p l e room_1 s m args below meth cd (fun q => s.heap.size ≤ q) 7 Q9 (LW D Y s.heap.size tE o c6 c7 F G N Q f g w) cells slots 1327 [(0, .ref b), (1, .ref (c6 0)), (2, .ref (c7 0)), (3, .ref o), (4, .int (nI i5))] [] := by
  have hbA : ¬ (fun q => s.heap.size ≤ q) b := Nat.not_le.mpr hbl
  obtain ⟨zx, zi⟩ := zf_tugPay hz
  have hv : vX6_tugPay F G N Q = vX7_tugPay f g := by
    rcases zx with h | h
    · exact h.2.2
    · cases h
  refine j_aload_n C0 dL_law_1327 rfl ?_
  refine j_callVv C0 (As := []) (rest := []) (lw_kx (o := o) (c6 := c6) (c7 := c7) (f := f) (g := g) (w := w) (tE := tE) (mi := mi) (fun U h => h.1.narrow (fun q z => z.1.1)) (EC.closed _ tE mi) rfl (k_X6_tugPay hsl (A := (fun q => (s.heap.size ≤ q ∧ q ∉ rL c7) ∧ q ≠ o)) (E := EC (fun q => (s.heap.size ≤ q ∧ q ∉ rL c7) ∧ q ≠ o) tE mi) (fun U h => h) c6 F G N Q)) mv_X6_tugPay wm_L_160 (lw_rec6 C0) rfl rfl ⟨(Nat.le_of_ble_eq_true rfl), (Nat.le_of_ble_eq_true rfl)⟩ (Nat.le_of_ble_eq_true rfl) ⟨by show cells + 8 ≤ 601024; omega, by show slots + 300 ≤ 7293034; omega⟩ dL_law_1328 ?_
  refine j_aload_n C0 dL_law_1331 rfl ?_
  refine j_callVv C0 (As := []) (rest := [.int (vX6_tugPay F G N Q)]) (lw_kr (F := F) (G := G) (N := N) (Q := Q) (w := w) (tE := tE) (c6 := c6) (D := D) (Y := Y) (E := EL (fun q => s.heap.size ≤ q) tE mi) ho hro (fun A' => k_X7_tugPay hsl (A := A') (E := fun _ => True) c7 f g (zI_RI hz))) mv_X7_tugPay wm_L_163 (lw_rec7 C0) rfl rfl ⟨(Nat.le_of_ble_eq_true rfl), (Nat.le_of_ble_eq_true rfl)⟩ (Nat.le_of_ble_eq_true rfl) ⟨by show cells + 8 + 0 ≤ 601024; omega, by show slots + 300 + 0 ≤ 7293034; omega⟩ dL_law_1332 ?_
  refine j_icmp_eq C0 1521 dL_law_1335 (by decide) (fun _ => ?_) (fun z => absurd hv z)
  exact j_widen (k := cells + (8 + 2 * (N 1 - N 1))) (n := slots + (300 + 165 * (N 1 - N 1))) (Nat.add_le_add_left (Nat.le_add_right 8 _) cells) (Nat.add_le_add_left (Nat.le_add_right 300 _) slots) (kk _ _ _ _ _ _ _ zi (Nat.le_refl _))
theorem lc_port (hsl : l.stackTraces = false) (C0 : CX p l s m args meth cd RL cL_law 7 ret9 D Y (fun q => s.heap.size ≤ q) (EL (fun q => s.heap.size ≤ q) tE mi)) (hX : va_X b Ls xs s s.heap) (hbl : b < s.heap.size) (hLs : Ls ≤ 2560) (hi : i5 + 4 < Ls) (ho : s.heap.size ≤ o) (hro : o ∉ rL c7) (hc : cells + 300 ≤ 601024) (hs : slots + 17000 ≤ 7293034) (hz : zI F G N Q f g)
    (kk : ∀ (F' : Nat → Int32) (G' : Nat → Nat → Int32) (N' : Nat → Nat) (Q' : Nat → Nat → Nat) (f' : Nat → Int32) (g' : Nat → Nat → Int32) (w' : Int64), zI F' G' N' Q' f' g' → N 1 ≤ N' 1 → J p l e room_1 s m args below meth cd (fun q => s.heap.size ≤ q) 7 Q9 (LW D Y s.heap.size tE o c6 c7 F' G' N' Q' f' g' w') (cells + (8 + 2 * (N' 1 - N 1))) (slots + (300 + 165 * (N' 1 - N 1))) 1521 [(0, .ref b), (1, .ref (c6 0)), (2, .ref (c7 0)), (3, .ref o), (4, .int (nI i5))] []) :
    J p l e room_1 s m args below meth cd (fun q => s.heap.size ≤ q) 7 Q9 (LW D Y s.heap.size tE o c6 c7 F G N Q f g w) cells slots 1340 [(0, .ref b), (1, .ref (c6 0)), (2, .ref (c7 0)), (3, .ref o), (4, .int (nI i5))] [] := by
  have hbA : ¬ (fun q => s.heap.size ≤ q) b := Nat.not_le.mpr hbl
  obtain ⟨zx, zi⟩ := zf_port hz
  have hv : vX6_port F G N Q = vX7_port f g := by
    rcases zx with h | h
    · exact h.2.2
    · cases h
  refine j_aload_n C0 dL_law_1340 rfl ?_
  refine j_callVv C0 (As := []) (rest := []) (lw_kx (o := o) (c6 := c6) (c7 := c7) (f := f) (g := g) (w := w) (tE := tE) (mi := mi) (fun U h => h.1.narrow (fun q z => z.1.1)) (EC.closed _ tE mi) rfl (k_X6_port hsl (A := (fun q => (s.heap.size ≤ q ∧ q ∉ rL c7) ∧ q ≠ o)) (E := EC (fun q => (s.heap.size ≤ q ∧ q ∉ rL c7) ∧ q ≠ o) tE mi) (fun U h => h) c6 F G N Q)) mv_X6_port wm_L_164 (lw_rec6 C0) rfl rfl ⟨(Nat.le_of_ble_eq_true rfl), (Nat.le_of_ble_eq_true rfl)⟩ (Nat.le_of_ble_eq_true rfl) ⟨by show cells + 8 ≤ 601024; omega, by show slots + 300 ≤ 7293034; omega⟩ dL_law_1341 ?_
  refine j_aload_n C0 dL_law_1344 rfl ?_
  refine j_callVv C0 (As := []) (rest := [.int (vX6_port F G N Q)]) (lw_kr (F := F) (G := G) (N := N) (Q := Q) (w := w) (tE := tE) (c6 := c6) (D := D) (Y := Y) (E := EL (fun q => s.heap.size ≤ q) tE mi) ho hro (fun A' => k_X7_port hsl (A := A') (E := fun _ => True) c7 f g (zI_RI hz))) mv_X7_port wm_L_167 (lw_rec7 C0) rfl rfl ⟨(Nat.le_of_ble_eq_true rfl), (Nat.le_of_ble_eq_true rfl)⟩ (Nat.le_of_ble_eq_true rfl) ⟨by show cells + 8 + 0 ≤ 601024; omega, by show slots + 300 + 0 ≤ 7293034; omega⟩ dL_law_1345 ?_
  refine j_icmp_eq C0 1521 dL_law_1348 (by decide) (fun _ => ?_) (fun z => absurd hv z)
  exact j_widen (k := cells + (8 + 2 * (N 1 - N 1))) (n := slots + (300 + 165 * (N 1 - N 1))) (Nat.add_le_add_left (Nat.le_add_right 8 _) cells) (Nat.add_le_add_left (Nat.le_add_right 300 _) slots) (kk _ _ _ _ _ _ _ zi (Nat.le_refl _))
theorem lc_lost (hsl : l.stackTraces = false) (C0 : CX p l s m args meth cd RL cL_law 7 ret9 D Y (fun q => s.heap.size ≤ q) (EL (fun q => s.heap.size ≤ q) tE mi)) (hX : va_X b Ls xs s s.heap) (hbl : b < s.heap.size) (hLs : Ls ≤ 2560) (hi : i5 + 4 < Ls) (ho : s.heap.size ≤ o) (hro : o ∉ rL c7) (hc : cells + 300 ≤ 601024) (hs : slots + 17000 ≤ 7293034) (hz : zI F G N Q f g)
    (kk : ∀ (F' : Nat → Int32) (G' : Nat → Nat → Int32) (N' : Nat → Nat) (Q' : Nat → Nat → Nat) (f' : Nat → Int32) (g' : Nat → Nat → Int32) (w' : Int64), zI F' G' N' Q' f' g' → N 1 ≤ N' 1 → J p l e room_1 s m args below meth cd (fun q => s.heap.size ≤ q) 7 Q9 (LW D Y s.heap.size tE o c6 c7 F' G' N' Q' f' g' w') (cells + (8 + 2 * (N' 1 - N 1))) (slots + (300 + 165 * (N' 1 - N 1))) 1521 [(0, .ref b), (1, .ref (c6 0)), (2, .ref (c7 0)), (3, .ref o), (4, .int (nI i5))] []) :
    J p l e room_1 s m args below meth cd (fun q => s.heap.size ≤ q) 7 Q9 (LW D Y s.heap.size tE o c6 c7 F G N Q f g w) cells slots 1353 [(0, .ref b), (1, .ref (c6 0)), (2, .ref (c7 0)), (3, .ref o), (4, .int (nI i5))] [] := by
  have hbA : ¬ (fun q => s.heap.size ≤ q) b := Nat.not_le.mpr hbl
  obtain ⟨zx, zi⟩ := zf_lost (xs (i5 + 1)) hz
  have hzz : (eX6_lost F G N Q (xs (i5 + 1)) = 0 ∧ (sX7_lost f g (xs (i5 + 1))).1 0 = 0) ∨ (eX6_lost F G N Q (xs (i5 + 1)), (sX7_lost f g (xs (i5 + 1))).1 0) ∈ ([(1, 1)] : List (Nat × Int32)) := zx.imp (fun h => ⟨h.1, h.2.1⟩) id
  have hv : (sX7_lost f g (xs (i5 + 1))).1 0 = 0 → vX6_lost F G N Q (xs (i5 + 1)) = vX7_lost f g (xs (i5 + 1)) := by
    intro h0
    rcases zx with h | h
    · exact h.2.2
    · rw [h0] at h
      simp at h
  refine j_aload_n C0 dL_law_1353 rfl ?_
  refine j_word C0 hX hbl hbA (k := 1) rfl (by omega) hLs rfl rfl dL_law_1354 dL_law_1355 dL_law_1357 dL_law_1358 dL_law_1359 ?_
  refine j_aload_n C0 dL_law_1360 rfl ?_
  refine j_callSW C0 (As := [.ref (c6 0), .int (xs (i5 + 1)), .ref o]) (rest := []) (lw_kw (P := fun w' => (sX7_lost f g (xs (i5 + 1))).1 0 = 0 → w' = (vX6_lost F G N Q (xs (i5 + 1))).toInt64) (f := f) (g := g) (kw_lost hsl (A := (fun q => s.heap.size ≤ q ∧ q ∉ rL c7)) (E := EL (fun q => s.heap.size ≤ q ∧ q ∉ rL c7) tE mi) (fun U h => h) c6 F G N Q (xs (i5 + 1)) o ⟨ho, hro⟩ w ((sX7_lost f g (xs (i5 + 1))).1 0) hzz)) msw_lost wm_L_168 rfl rfl ⟨(Nat.le_of_ble_eq_true rfl), (Nat.le_of_ble_eq_true rfl)⟩ (Nat.le_of_ble_eq_true rfl) ⟨by show cells + (8) ≤ 601024; omega, by show slots + (300) ≤ 7293034; omega⟩ dL_law_1361 ?_
  refine j_ex (fun w9 => j_and (fun hw9 => ?_))
  refine j_istore C0 dL_law_1364 (Nat.le_of_ble_eq_true rfl) rfl ?_
  refine j_aload_n C0 dL_law_1366 rfl ?_
  refine j_word C0 hX hbl hbA (k := 1) rfl (by omega) hLs rfl rfl dL_law_1367 dL_law_1368 dL_law_1370 dL_law_1371 dL_law_1372 ?_
  refine j_callVv C0 (As := [.int (xs (i5 + 1))]) (rest := []) (lw_kr (w := w9) (tE := tE) (c6 := c6) (D := D) (Y := Y) (E := EL (fun q => s.heap.size ≤ q) tE mi) ho hro (fun A' => k_X7_lost hsl (A := A') (E := fun _ => True) c7 f g (xs (i5 + 1)) (zI_RI hz))) mv_X7_lost wm_L_170 (lw_rec7 C0) rfl rfl ⟨(Nat.le_of_ble_eq_true rfl), (Nat.le_of_ble_eq_true rfl)⟩ (Nat.le_of_ble_eq_true rfl) ⟨by show cells + (8) + 0 ≤ 601024; omega, by show slots + (300) + 0 ≤ 7293034; omega⟩ dL_law_1373 ?_
  refine j_istore C0 dL_law_1376 (Nat.le_of_ble_eq_true rfl) rfl ?_
  refine j_aload_n C0 dL_law_1378 rfl ?_
  refine j_callVv C0 (As := []) (rest := []) (lw_kr (w := w9) (tE := tE) (c6 := c6) (D := D) (Y := Y) (E := EL (fun q => s.heap.size ≤ q) tE mi) ho hro (fun A' => k_X7_thrown hsl (A := A') (E := fun _ => True) c7 (sX7_lost f g (xs (i5 + 1))).1 (sX7_lost f g (xs (i5 + 1))).2)) mv_X7_thrown wm_L_94 (lw_rec7 C0) rfl rfl ⟨(Nat.le_of_ble_eq_true rfl), (Nat.le_of_ble_eq_true rfl)⟩ (Nat.le_of_ble_eq_true rfl) ⟨by show cells + (8) + 0 + 0 ≤ 601024; omega, by show slots + (300) + 0 + 0 ≤ 7293034; omega⟩ dL_law_1379 ?_
  refine j_iload C0 dL_law_1382 rfl ?_
  refine j_icmp_eq C0 1389 dL_law_1384 (by decide) (fun _ => ?_) (fun z => absurd rfl z)
  refine j_iload C0 dL_law_1389 rfl ?_
  have fin : J p l e room_1 s m args below meth cd (fun q => s.heap.size ≤ q) 7 Q9 (LW D Y s.heap.size tE o c6 c7 F G N Q (sX7_lost f g (xs (i5 + 1))).1 (sX7_lost f g (xs (i5 + 1))).2 w9) (cells + (8) + 0 + 0) (slots + (300) + 0 + 0) 1406 ([(0, .ref b), (1, .ref (c6 0)), (2, .ref (c7 0)), (3, .ref o), (4, .int (nI i5))] ++ [(5, .int ((sX7_lost f g (xs (i5 + 1))).1 0)), (6, .int (vX7_lost f g (xs (i5 + 1))))]) [] := by
    refine j_goto C0 1521 dL_law_1406 (by decide) ?_
    refine j_locals (L' := [(0, .ref b), (1, .ref (c6 0)), (2, .ref (c7 0)), (3, .ref o), (4, .int (nI i5))]) (fun q hq => List.mem_append_left _ hq) (lok_of rfl rfl) ?_
    exact j_widen (k := cells + (8 + 2 * (N 1 - N 1))) (n := slots + (300 + 165 * (N 1 - N 1))) (Nat.add_le_add_left (Nat.le_add_right 8 _) cells) (Nat.add_le_add_left (Nat.le_add_right 300 _) slots) (kk _ _ _ _ _ _ _ zi (Nat.le_refl _))
  refine j_if_ne C0 1406 dL_law_1391 (by decide) (fun _ => fin) (fun z0 => ?_)
  refine j_aload_n C0 dL_law_1394 rfl ?_
  refine j_iconst C0 dL_law_1395 (v := 0) rfl ?_
  refine j_laldO C0 (w := w9) dL_law_1396 (fun H h => h.2.2) ?_
  refine j_iload C0 dL_law_1397 rfl ?_
  refine j_i2l C0 dL_law_1399 (v := (vX7_lost f g (xs (i5 + 1))).toInt64) rfl ?_
  refine j_lcmp C0 dL_law_1400 ?_
  exact j_if_eq C0 1406 dL_law_1401 (by decide) (fun _ => fin) (fun z => absurd (lg_cmp_0.mpr ((hw9 z0).trans (by rw [hv z0]))) z)
theorem lc_claims (hsl : l.stackTraces = false) (C0 : CX p l s m args meth cd RL cL_law 7 ret9 D Y (fun q => s.heap.size ≤ q) (EL (fun q => s.heap.size ≤ q) tE mi)) (hX : va_X b Ls xs s s.heap) (hbl : b < s.heap.size) (hLs : Ls ≤ 2560) (hi : i5 + 4 < Ls) (ho : s.heap.size ≤ o) (hro : o ∉ rL c7) (hc : cells + 300 ≤ 601024) (hs : slots + 17000 ≤ 7293034) (hz : zI F G N Q f g)
    (kk : ∀ (F' : Nat → Int32) (G' : Nat → Nat → Int32) (N' : Nat → Nat) (Q' : Nat → Nat → Nat) (f' : Nat → Int32) (g' : Nat → Nat → Int32) (w' : Int64), zI F' G' N' Q' f' g' → N 1 ≤ N' 1 → J p l e room_1 s m args below meth cd (fun q => s.heap.size ≤ q) 7 Q9 (LW D Y s.heap.size tE o c6 c7 F' G' N' Q' f' g' w') (cells + (8 + 2 * (N' 1 - N 1))) (slots + (300 + 165 * (N' 1 - N 1))) 1521 [(0, .ref b), (1, .ref (c6 0)), (2, .ref (c7 0)), (3, .ref o), (4, .int (nI i5))] []) :
    J p l e room_1 s m args below meth cd (fun q => s.heap.size ≤ q) 7 Q9 (LW D Y s.heap.size tE o c6 c7 F G N Q f g w) cells slots 1409 [(0, .ref b), (1, .ref (c6 0)), (2, .ref (c7 0)), (3, .ref o), (4, .int (nI i5))] [] := by
  have hbA : ¬ (fun q => s.heap.size ≤ q) b := Nat.not_le.mpr hbl
  obtain ⟨zx, zi⟩ := zf_claims (xs (i5 + 1)) hz
  have hzz : (eX6_claims F G N Q (xs (i5 + 1)) = 0 ∧ (sX7_claims f g (xs (i5 + 1))).1 0 = 0) ∨ (eX6_claims F G N Q (xs (i5 + 1)), (sX7_claims f g (xs (i5 + 1))).1 0) ∈ ([(1, 1)] : List (Nat × Int32)) := zx.imp (fun h => ⟨h.1, h.2.1⟩) id
  have hv : (sX7_claims f g (xs (i5 + 1))).1 0 = 0 → vX6_claims F G N Q (xs (i5 + 1)) = vX7_claims f g (xs (i5 + 1)) := by
    intro h0
    rcases zx with h | h
    · exact h.2.2
    · rw [h0] at h
      simp at h
  refine j_aload_n C0 dL_law_1409 rfl ?_
  refine j_word C0 hX hbl hbA (k := 1) rfl (by omega) hLs rfl rfl dL_law_1410 dL_law_1411 dL_law_1413 dL_law_1414 dL_law_1415 ?_
  refine j_aload_n C0 dL_law_1416 rfl ?_
  refine j_callSW C0 (As := [.ref (c6 0), .int (xs (i5 + 1)), .ref o]) (rest := []) (lw_kw (P := fun w' => (sX7_claims f g (xs (i5 + 1))).1 0 = 0 → w' = (vX6_claims F G N Q (xs (i5 + 1))).toInt64) (f := f) (g := g) (kw_claims hsl (A := (fun q => s.heap.size ≤ q ∧ q ∉ rL c7)) (E := EL (fun q => s.heap.size ≤ q ∧ q ∉ rL c7) tE mi) (fun U h => h) c6 F G N Q (xs (i5 + 1)) o ⟨ho, hro⟩ w ((sX7_claims f g (xs (i5 + 1))).1 0) hzz)) msw_claims wm_L_171 rfl rfl ⟨(Nat.le_of_ble_eq_true rfl), (Nat.le_of_ble_eq_true rfl)⟩ (Nat.le_of_ble_eq_true rfl) ⟨by show cells + (8) ≤ 601024; omega, by show slots + (300) ≤ 7293034; omega⟩ dL_law_1417 ?_
  refine j_ex (fun w9 => j_and (fun hw9 => ?_))
  refine j_istore C0 dL_law_1420 (Nat.le_of_ble_eq_true rfl) rfl ?_
  refine j_aload_n C0 dL_law_1422 rfl ?_
  refine j_word C0 hX hbl hbA (k := 1) rfl (by omega) hLs rfl rfl dL_law_1423 dL_law_1424 dL_law_1426 dL_law_1427 dL_law_1428 ?_
  refine j_callVv C0 (As := [.int (xs (i5 + 1))]) (rest := []) (lw_kr (w := w9) (tE := tE) (c6 := c6) (D := D) (Y := Y) (E := EL (fun q => s.heap.size ≤ q) tE mi) ho hro (fun A' => k_X7_claims hsl (A := A') (E := fun _ => True) c7 f g (xs (i5 + 1)) (zI_RI hz))) mv_X7_claims wm_L_173 (lw_rec7 C0) rfl rfl ⟨(Nat.le_of_ble_eq_true rfl), (Nat.le_of_ble_eq_true rfl)⟩ (Nat.le_of_ble_eq_true rfl) ⟨by show cells + (8) + 0 ≤ 601024; omega, by show slots + (300) + 0 ≤ 7293034; omega⟩ dL_law_1429 ?_
  refine j_istore C0 dL_law_1432 (Nat.le_of_ble_eq_true rfl) rfl ?_
  refine j_aload_n C0 dL_law_1434 rfl ?_
  refine j_callVv C0 (As := []) (rest := []) (lw_kr (w := w9) (tE := tE) (c6 := c6) (D := D) (Y := Y) (E := EL (fun q => s.heap.size ≤ q) tE mi) ho hro (fun A' => k_X7_thrown hsl (A := A') (E := fun _ => True) c7 (sX7_claims f g (xs (i5 + 1))).1 (sX7_claims f g (xs (i5 + 1))).2)) mv_X7_thrown wm_L_94 (lw_rec7 C0) rfl rfl ⟨(Nat.le_of_ble_eq_true rfl), (Nat.le_of_ble_eq_true rfl)⟩ (Nat.le_of_ble_eq_true rfl) ⟨by show cells + (8) + 0 + 0 ≤ 601024; omega, by show slots + (300) + 0 + 0 ≤ 7293034; omega⟩ dL_law_1435 ?_
  refine j_iload C0 dL_law_1438 rfl ?_
  refine j_icmp_eq C0 1445 dL_law_1440 (by decide) (fun _ => ?_) (fun z => absurd rfl z)
  refine j_iload C0 dL_law_1445 rfl ?_
  have fin : J p l e room_1 s m args below meth cd (fun q => s.heap.size ≤ q) 7 Q9 (LW D Y s.heap.size tE o c6 c7 F G N Q (sX7_claims f g (xs (i5 + 1))).1 (sX7_claims f g (xs (i5 + 1))).2 w9) (cells + (8) + 0 + 0) (slots + (300) + 0 + 0) 1462 ([(0, .ref b), (1, .ref (c6 0)), (2, .ref (c7 0)), (3, .ref o), (4, .int (nI i5))] ++ [(5, .int ((sX7_claims f g (xs (i5 + 1))).1 0)), (6, .int (vX7_claims f g (xs (i5 + 1))))]) [] := by
    refine j_goto C0 1521 dL_law_1462 (by decide) ?_
    refine j_locals (L' := [(0, .ref b), (1, .ref (c6 0)), (2, .ref (c7 0)), (3, .ref o), (4, .int (nI i5))]) (fun q hq => List.mem_append_left _ hq) (lok_of rfl rfl) ?_
    exact j_widen (k := cells + (8 + 2 * (N 1 - N 1))) (n := slots + (300 + 165 * (N 1 - N 1))) (Nat.add_le_add_left (Nat.le_add_right 8 _) cells) (Nat.add_le_add_left (Nat.le_add_right 300 _) slots) (kk _ _ _ _ _ _ _ zi (Nat.le_refl _))
  refine j_if_ne C0 1462 dL_law_1447 (by decide) (fun _ => fin) (fun z0 => ?_)
  refine j_aload_n C0 dL_law_1450 rfl ?_
  refine j_iconst C0 dL_law_1451 (v := 0) rfl ?_
  refine j_laldO C0 (w := w9) dL_law_1452 (fun H h => h.2.2) ?_
  refine j_iload C0 dL_law_1453 rfl ?_
  refine j_i2l C0 dL_law_1455 (v := (vX7_claims f g (xs (i5 + 1))).toInt64) rfl ?_
  refine j_lcmp C0 dL_law_1456 ?_
  exact j_if_eq C0 1462 dL_law_1457 (by decide) (fun _ => fin) (fun z => absurd (lg_cmp_0.mpr ((hw9 z0).trans (by rw [hv z0]))) z)
theorem lc_payClaim (hsl : l.stackTraces = false) (C0 : CX p l s m args meth cd RL cL_law 7 ret9 D Y (fun q => s.heap.size ≤ q) (EL (fun q => s.heap.size ≤ q) tE mi)) (hX : va_X b Ls xs s s.heap) (hbl : b < s.heap.size) (hLs : Ls ≤ 2560) (hi : i5 + 4 < Ls) (ho : s.heap.size ≤ o) (hro : o ∉ rL c7) (hc : cells + 300 ≤ 601024) (hs : slots + 17000 ≤ 7293034) (hz : zI F G N Q f g)
    (kk : ∀ (F' : Nat → Int32) (G' : Nat → Nat → Int32) (N' : Nat → Nat) (Q' : Nat → Nat → Nat) (f' : Nat → Int32) (g' : Nat → Nat → Int32) (w' : Int64), zI F' G' N' Q' f' g' → N 1 ≤ N' 1 → J p l e room_1 s m args below meth cd (fun q => s.heap.size ≤ q) 7 Q9 (LW D Y s.heap.size tE o c6 c7 F' G' N' Q' f' g' w') (cells + (8 + 2 * (N' 1 - N 1))) (slots + (300 + 165 * (N' 1 - N 1))) 1521 [(0, .ref b), (1, .ref (c6 0)), (2, .ref (c7 0)), (3, .ref o), (4, .int (nI i5))] []) :
    J p l e room_1 s m args below meth cd (fun q => s.heap.size ≤ q) 7 Q9 (LW D Y s.heap.size tE o c6 c7 F G N Q f g w) cells slots 1465 [(0, .ref b), (1, .ref (c6 0)), (2, .ref (c7 0)), (3, .ref o), (4, .int (nI i5))] [] := by
  have hbA : ¬ (fun q => s.heap.size ≤ q) b := Nat.not_le.mpr hbl
  obtain ⟨zx, zi⟩ := zf_payClaim (xs (i5 + 1)) hz
  have hzz : (eX6_payClaim F G N Q (xs (i5 + 1)) = 0 ∧ (sX7_payClaim f g (xs (i5 + 1))).1 0 = 0) ∨ (eX6_payClaim F G N Q (xs (i5 + 1)), (sX7_payClaim f g (xs (i5 + 1))).1 0) ∈ ([(1, 1), (3, 2)] : List (Nat × Int32)) := zx.imp (fun h => ⟨h.1, h.2.1⟩) id
  have hv : (sX7_payClaim f g (xs (i5 + 1))).1 0 = 0 → vX6_payClaim F G N Q (xs (i5 + 1)) = vX7_payClaim f g (xs (i5 + 1)) := by
    intro h0
    rcases zx with h | h
    · exact h.2.2
    · rw [h0] at h
      simp at h
  refine j_aload_n C0 dL_law_1465 rfl ?_
  refine j_word C0 hX hbl hbA (k := 1) rfl (by omega) hLs rfl rfl dL_law_1466 dL_law_1467 dL_law_1469 dL_law_1470 dL_law_1471 ?_
  refine j_aload_n C0 dL_law_1472 rfl ?_
  refine j_callSW C0 (As := [.ref (c6 0), .int (xs (i5 + 1)), .ref o]) (rest := []) (lw_kw (P := fun w' => (sX7_payClaim f g (xs (i5 + 1))).1 0 = 0 → w' = (vX6_payClaim F G N Q (xs (i5 + 1))).toInt64) (f := f) (g := g) (kw_payClaim hsl (A := (fun q => s.heap.size ≤ q ∧ q ∉ rL c7)) (E := EL (fun q => s.heap.size ≤ q ∧ q ∉ rL c7) tE mi) (fun U h => h) c6 F G N Q (xs (i5 + 1)) o ⟨ho, hro⟩ w ((sX7_payClaim f g (xs (i5 + 1))).1 0) hzz)) msw_payClaim wm_L_174 rfl rfl ⟨(Nat.le_of_ble_eq_true rfl), (Nat.le_of_ble_eq_true rfl)⟩ (Nat.le_of_ble_eq_true rfl) ⟨by show cells + (8) ≤ 601024; omega, by show slots + (300) ≤ 7293034; omega⟩ dL_law_1473 ?_
  refine j_ex (fun w9 => j_and (fun hw9 => ?_))
  refine j_istore C0 dL_law_1476 (Nat.le_of_ble_eq_true rfl) rfl ?_
  refine j_aload_n C0 dL_law_1478 rfl ?_
  refine j_word C0 hX hbl hbA (k := 1) rfl (by omega) hLs rfl rfl dL_law_1479 dL_law_1480 dL_law_1482 dL_law_1483 dL_law_1484 ?_
  refine j_callVv C0 (As := [.int (xs (i5 + 1))]) (rest := []) (lw_kr (w := w9) (tE := tE) (c6 := c6) (D := D) (Y := Y) (E := EL (fun q => s.heap.size ≤ q) tE mi) ho hro (fun A' => k_X7_payClaim hsl (A := A') (E := fun _ => True) c7 f g (xs (i5 + 1)) (zI_RI hz))) mv_X7_payClaim wm_L_176 (lw_rec7 C0) rfl rfl ⟨(Nat.le_of_ble_eq_true rfl), (Nat.le_of_ble_eq_true rfl)⟩ (Nat.le_of_ble_eq_true rfl) ⟨by show cells + (8) + 0 ≤ 601024; omega, by show slots + (300) + 0 ≤ 7293034; omega⟩ dL_law_1485 ?_
  refine j_istore C0 dL_law_1488 (Nat.le_of_ble_eq_true rfl) rfl ?_
  refine j_aload_n C0 dL_law_1490 rfl ?_
  refine j_callVv C0 (As := []) (rest := []) (lw_kr (w := w9) (tE := tE) (c6 := c6) (D := D) (Y := Y) (E := EL (fun q => s.heap.size ≤ q) tE mi) ho hro (fun A' => k_X7_thrown hsl (A := A') (E := fun _ => True) c7 (sX7_payClaim f g (xs (i5 + 1))).1 (sX7_payClaim f g (xs (i5 + 1))).2)) mv_X7_thrown wm_L_94 (lw_rec7 C0) rfl rfl ⟨(Nat.le_of_ble_eq_true rfl), (Nat.le_of_ble_eq_true rfl)⟩ (Nat.le_of_ble_eq_true rfl) ⟨by show cells + (8) + 0 + 0 ≤ 601024; omega, by show slots + (300) + 0 + 0 ≤ 7293034; omega⟩ dL_law_1491 ?_
  refine j_iload C0 dL_law_1494 rfl ?_
  refine j_icmp_eq C0 1501 dL_law_1496 (by decide) (fun _ => ?_) (fun z => absurd rfl z)
  refine j_iload C0 dL_law_1501 rfl ?_
  have fin : J p l e room_1 s m args below meth cd (fun q => s.heap.size ≤ q) 7 Q9 (LW D Y s.heap.size tE o c6 c7 (hu F 2 (sX6_payClaim F G N Q (xs (i5 + 1))).1) (hu (hu G 13 (sX6_payClaim F G N Q (xs (i5 + 1))).2.1) 15 (sX6_payClaim F G N Q (xs (i5 + 1))).2.2) N Q (sX7_payClaim f g (xs (i5 + 1))).1 (sX7_payClaim f g (xs (i5 + 1))).2 w9) (cells + (8) + 0 + 0) (slots + (300) + 0 + 0) 1518 ([(0, .ref b), (1, .ref (c6 0)), (2, .ref (c7 0)), (3, .ref o), (4, .int (nI i5))] ++ [(5, .int ((sX7_payClaim f g (xs (i5 + 1))).1 0)), (6, .int (vX7_payClaim f g (xs (i5 + 1))))]) [] := by
    refine j_goto C0 1521 dL_law_1518 (by decide) ?_
    refine j_locals (L' := [(0, .ref b), (1, .ref (c6 0)), (2, .ref (c7 0)), (3, .ref o), (4, .int (nI i5))]) (fun q hq => List.mem_append_left _ hq) (lok_of rfl rfl) ?_
    exact j_widen (k := cells + (8 + 2 * (N 1 - N 1))) (n := slots + (300 + 165 * (N 1 - N 1))) (Nat.add_le_add_left (Nat.le_add_right 8 _) cells) (Nat.add_le_add_left (Nat.le_add_right 300 _) slots) (kk _ _ _ _ _ _ _ zi (Nat.le_refl _))
  refine j_if_ne C0 1518 dL_law_1503 (by decide) (fun _ => fin) (fun z0 => ?_)
  refine j_aload_n C0 dL_law_1506 rfl ?_
  refine j_iconst C0 dL_law_1507 (v := 0) rfl ?_
  refine j_laldO C0 (w := w9) dL_law_1508 (fun H h => h.2.2) ?_
  refine j_iload C0 dL_law_1509 rfl ?_
  refine j_i2l C0 dL_law_1511 (v := (vX7_payClaim f g (xs (i5 + 1))).toInt64) rfl ?_
  refine j_lcmp C0 dL_law_1512 ?_
  exact j_if_eq C0 1518 dL_law_1513 (by decide) (fun _ => fin) (fun z => absurd (lg_cmp_0.mpr ((hw9 z0).trans (by rw [hv z0]))) z)
end
