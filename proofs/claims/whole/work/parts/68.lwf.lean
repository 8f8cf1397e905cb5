section
variable {p : Program} {l : Launch} {e : Env} {s : State} {m : MethodId} {args : Array Value} {below : List Frame} {meth : Method} {cd : Code} {Q9 : State → Prop} {ret9 : Option FieldType} {D : va_G} {Y : Nat → ClassId} {tE mi b Ls o cells slots i5 : Nat} {xs : Nat → Int32} {c6 c7 : Nat → Nat} {F : Nat → Int32} {G : Nat → Nat → Int32} {N : Nat → Nat} {Q : Nat → Nat → Nat} {f : Nat → Int32} {g : Nat → Nat → Int32} {w : Int64}
theorem lw_rec7 {own : String} {cc : ByteArray} {nL : Nat} {E : State → Prop} (C0 : CX p l s m args meth cd own cc nL ret9 D Y (fun q => s.heap.size ≤ q) E) : RV s (LW D Y s.heap.size tE o c6 c7 F G N Q f g w) RX7 (c7 0) := fun H h => j_recv C0 (ws := wsR Y c7 (f 0) (f 1) (f 5) (f 18) (f 19) (f 20) (g 2) (g 3) (g 4) (g 6) (g 7) (g 8) (g 9) (g 10) (g 11) (g 12) (g 13) (g 14) (g 15) (g 16) (g 17) (g 21) (g 22) (g 23) (g 24) (g 25)) (ci := 10) rfl 0 rfl H h.2.1
theorem lw_rec6 {own : String} {cc : ByteArray} {nL : Nat} {E : State → Prop} (C0 : CX p l s m args meth cd own cc nL ret9 D Y (fun q => s.heap.size ≤ q) E) : RV s (LW D Y s.heap.size tE o c6 c7 F G N Q f g w) RX6 (c6 0) := fun H h => by
  obtain ⟨sa, ma, h3⟩ := h.1.re (A' := fun q => s.heap.size ≤ q) (fun q _ z => z.1.1)
  exact c_recv C0 (ci := 9) rfl 0 (fun cel h => ⟨_, ci_0 h⟩) H h3
theorem lc_table (hsl : l.stackTraces = false) (C0 : CX p l s m args meth cd RL cL_law 7 ret9 D Y (fun q => s.heap.size ≤ q) (EL (fun q => s.heap.size ≤ q) tE mi)) (hX : va_X b Ls xs s s.heap) (hbl : b < s.heap.size) (hLs : Ls ≤ 2560) (hi : i5 + 4 < Ls) (ho : s.heap.size ≤ o) (hro : o ∉ rL c7) (hc : cells + 300 ≤ 601024) (hs : slots + 17000 ≤ 7293034) (hz : zI F G N Q f g)
    (kk : ∀ (F' : Nat → Int32) (G' : Nat → Nat → Int32) (N' : Nat → Nat) (Q' : Nat → Nat → Nat) (f' : Nat → Int32) (g' : Nat → Nat → Int32) (w' : Int64), zI F' G' N' Q' f' g' → N 1 ≤ N' 1 → J p l e room_1 s m args below meth cd (fun q => s.heap.size ≤ q) 7 Q9 (LW D Y s.heap.size tE o c6 c7 F' G' N' Q' f' g' w') (cells + (8 + 2 * (N' 1 - N 1))) (slots + (300 + 165 * (N' 1 - N 1))) 1521 [(0, .ref b), (1, .ref (c6 0)), (2, .ref (c7 0)), (3, .ref o), (4, .int (nI i5))] []) :
    J p l e room_1 s m args below meth cd (fun q => s.heap.size ≤ q) 7 Q9 (LW D Y s.heap.size tE o c6 c7 F G N Q f g w) cells slots 152 [(0, .ref b), (1, .ref (c6 0)), (2, .ref (c7 0)), (3, .ref o), (4, .int (nI i5))] [] := by
  have hbA : ¬ (fun q => s.heap.size ≤ q) b := Nat.not_le.mpr hbl
  obtain ⟨zx, zi⟩ := zf_table (xs (i5 + 1)) (xs (i5 + 2)) hz
  have hzz : (eX6_table F G N Q (xs (i5 + 1)) (xs (i5 + 2)) = 0 ∧ (sX7_table f g (xs (i5 + 1)) (xs (i5 + 2))).1 0 = 0) ∨ (eX6_table F G N Q (xs (i5 + 1)) (xs (i5 + 2)), (sX7_table f g (xs (i5 + 1)) (xs (i5 + 2))).1 0) ∈ ([(1, 1), (2, 2), (3, 3)] : List (Nat × Int32)) := zx.imp (fun h => ⟨h.1, h.2.1⟩) id
  have hv : (sX7_table f g (xs (i5 + 1)) (xs (i5 + 2))).1 0 = 0 → vX6_table F G N Q (xs (i5 + 1)) (xs (i5 + 2)) = vX7_table f g (xs (i5 + 1)) (xs (i5 + 2)) := by
    intro h0
    rcases zx with h | h
    · exact h.2.2
    · rw [h0] at h
      simp at h
  refine j_aload_n C0 dL_law_152 rfl ?_
  refine j_word C0 hX hbl hbA (k := 1) rfl (by omega) hLs rfl rfl dL_law_153 dL_law_154 dL_law_156 dL_law_157 dL_law_158 ?_
  refine j_word C0 hX hbl hbA (k := 2) rfl (by omega) hLs rfl rfl dL_law_159 dL_law_160 dL_law_162 dL_law_163 dL_law_164 ?_
  refine j_aload_n C0 dL_law_165 rfl ?_
  refine j_callSW C0 (As := [.ref (c6 0), .int (xs (i5 + 1)), .int (xs (i5 + 2)), .ref o]) (rest := []) (lw_kw (P := fun w' => (sX7_table f g (xs (i5 + 1)) (xs (i5 + 2))).1 0 = 0 → w' = (vX6_table F G N Q (xs (i5 + 1)) (xs (i5 + 2))).toInt64) (f := f) (g := g) (kw_table hsl (A := (fun q => s.heap.size ≤ q ∧ q ∉ rL c7)) (E := EL (fun q => s.heap.size ≤ q ∧ q ∉ rL c7) tE mi) (fun U h => h) c6 F G N Q (xs (i5 + 1)) (xs (i5 + 2)) o ⟨ho, hro⟩ w ((sX7_table f g (xs (i5 + 1)) (xs (i5 + 2))).1 0) hzz)) msw_table wm_L_88 rfl rfl ⟨(Nat.le_of_ble_eq_true rfl), (Nat.le_of_ble_eq_true rfl)⟩ (Nat.le_of_ble_eq_true rfl) ⟨by show cells + (8) ≤ 601024; omega, by show slots + (300) ≤ 7293034; omega⟩ dL_law_166 ?_
  refine j_ex (fun w9 => j_and (fun hw9 => ?_))
  refine j_istore C0 dL_law_169 (Nat.le_of_ble_eq_true rfl) rfl ?_
  refine j_aload_n C0 dL_law_171 rfl ?_
  refine j_word C0 hX hbl hbA (k := 1) rfl (by omega) hLs rfl rfl dL_law_172 dL_law_173 dL_law_175 dL_law_176 dL_law_177 ?_
  refine j_word C0 hX hbl hbA (k := 2) rfl (by omega) hLs rfl rfl dL_law_178 dL_law_179 dL_law_181 dL_law_182 dL_law_183 ?_
  refine j_callVv C0 (As := [.int (xs (i5 + 1)), .int (xs (i5 + 2))]) (rest := []) (lw_kr (w := w9) (tE := tE) (c6 := c6) (D := D) (Y := Y) (E := EL (fun q => s.heap.size ≤ q) tE mi) ho hro (fun A' => k_X7_table hsl (A := A') (E := fun _ => True) c7 f g (xs (i5 + 1)) (xs (i5 + 2)) (zI_RI hz))) mv_X7_table wm_L_93 (lw_rec7 C0) rfl rfl ⟨(Nat.le_of_ble_eq_true rfl), (Nat.le_of_ble_eq_true rfl)⟩ (Nat.le_of_ble_eq_true rfl) ⟨by show cells + (8) + 0 ≤ 601024; omega, by show slots + (300) + 0 ≤ 7293034; omega⟩ dL_law_184 ?_
  refine j_istore C0 dL_law_187 (Nat.le_of_ble_eq_true rfl) rfl ?_
  refine j_aload_n C0 dL_law_189 rfl ?_
  refine j_callVv C0 (As := []) (rest := []) (lw_kr (w := w9) (tE := tE) (c6 := c6) (D := D) (Y := Y) (E := EL (fun q => s.heap.size ≤ q) tE mi) ho hro (fun A' => k_X7_thrown hsl (A := A') (E := fun _ => True) c7 (sX7_table f g (xs (i5 + 1)) (xs (i5 + 2))).1 (sX7_table f g (xs (i5 + 1)) (xs (i5 + 2))).2)) mv_X7_thrown wm_L_94 (lw_rec7 C0) rfl rfl ⟨(Nat.le_of_ble_eq_true rfl), (Nat.le_of_ble_eq_true rfl)⟩ (Nat.le_of_ble_eq_true rfl) ⟨by show cells + (8) + 0 + 0 ≤ 601024; omega, by show slots + (300) + 0 + 0 ≤ 7293034; omega⟩ dL_law_190 ?_
  refine j_iload C0 dL_law_193 rfl ?_
  refine j_icmp_eq C0 200 dL_law_195 (by decide) (fun _ => ?_) (fun z => absurd rfl z)
  refine j_iload C0 dL_law_200 rfl ?_
  have fin : J p l e room_1 s m args below meth cd (fun q => s.heap.size ≤ q) 7 Q9 (LW D Y s.heap.size tE o c6 c7 F (hu G 0 (sX6_table F G N Q (xs (i5 + 1)) (xs (i5 + 2)))) N Q (sX7_table f g (xs (i5 + 1)) (xs (i5 + 2))).1 (sX7_table f g (xs (i5 + 1)) (xs (i5 + 2))).2 w9) (cells + (8) + 0 + 0) (slots + (300) + 0 + 0) 217 ([(0, .ref b), (1, .ref (c6 0)), (2, .ref (c7 0)), (3, .ref o), (4, .int (nI i5))] ++ [(5, .int ((sX7_table f g (xs (i5 + 1)) (xs (i5 + 2))).1 0)), (6, .int (vX7_table f g (xs (i5 + 1)) (xs (i5 + 2))))]) [] := by
    refine j_goto C0 1521 dL_law_217 (by decide) ?_
    refine j_locals (L' := [(0, .ref b), (1, .ref (c6 0)), (2, .ref (c7 0)), (3, .ref o), (4, .int (nI i5))]) (fun q hq => List.mem_append_left _ hq) (lok_of rfl rfl) ?_
    exact j_widen (k := cells + (8 + 2 * (N 1 - N 1))) (n := slots + (300 + 165 * (N 1 - N 1))) (Nat.add_le_add_left (Nat.le_add_right 8 _) cells) (Nat.add_le_add_left (Nat.le_add_right 300 _) slots) (kk _ _ _ _ _ _ _ zi (Nat.le_refl _))
  refine j_if_ne C0 217 dL_law_202 (by decide) (fun _ => fin) (fun z0 => ?_)
  refine j_aload_n C0 dL_law_205 rfl ?_
  refine j_iconst C0 dL_law_206 (v := 0) rfl ?_
  refine j_laldO C0 (w := w9) dL_law_207 (fun H h => h.2.2) ?_
  refine j_iload C0 dL_law_208 rfl ?_
  refine j_i2l C0 dL_law_210 (v := (vX7_table f g (xs (i5 + 1)) (xs (i5 + 2))).toInt64) rfl ?_
  refine j_lcmp C0 dL_law_211 ?_
  exact j_if_eq C0 217 dL_law_212 (by decide) (fun _ => fin) (fun z => absurd (lg_cmp_0.mpr ((hw9 z0).trans (by rw [hv z0]))) z)
theorem lc_tugs (hsl : l.stackTraces = false) (C0 : CX p l s m args meth cd RL cL_law 7 ret9 D Y (fun q => s.heap.size ≤ q) (EL (fun q => s.heap.size ≤ q) tE mi)) (hX : va_X b Ls xs s s.heap) (hbl : b < s.heap.size) (hLs : Ls ≤ 2560) (hi : i5 + 4 < Ls) (ho : s.heap.size ≤ o) (hro : o ∉ rL c7) (hc : cells + 300 ≤ 601024) (hs : slots + 17000 ≤ 7293034) (hz : zI F G N Q f g)
    (kk : ∀ (F' : Nat → Int32) (G' : Nat → Nat → Int32) (N' : Nat → Nat) (Q' : Nat → Nat → Nat) (f' : Nat → Int32) (g' : Nat → Nat → Int32) (w' : Int64), zI F' G' N' Q' f' g' → N 1 ≤ N' 1 → J p l e room_1 s m args below meth cd (fun q => s.heap.size ≤ q) 7 Q9 (LW D Y s.heap.size tE o c6 c7 F' G' N' Q' f' g' w') (cells + (8 + 2 * (N' 1 - N 1))) (slots + (300 + 165 * (N' 1 - N 1))) 1521 [(0, .ref b), (1, .ref (c6 0)), (2, .ref (c7 0)), (3, .ref o), (4, .int (nI i5))] []) :
    J p l e room_1 s m args below meth cd (fun q => s.heap.size ≤ q) 7 Q9 (LW D Y s.heap.size tE o c6 c7 F G N Q f g w) cells slots 1070 [(0, .ref b), (1, .ref (c6 0)), (2, .ref (c7 0)), (3, .ref o), (4, .int (nI i5))] [] := by
  have hbA : ¬ (fun q => s.heap.size ≤ q) b := Nat.not_le.mpr hbl
  obtain ⟨zx, zi⟩ := zf_tugs hz
  have hv : vX6_tugs F G N Q = vX7_tugs f g := by
    rcases zx with h | h
    · exact h.2.2
    · cases h
  refine j_aload_n C0 dL_law_1070 rfl ?_
  refine j_callVv C0 (As := []) (rest := []) (lw_kx (o := o) (c6 := c6) (c7 := c7) (f := f) (g := g) (w := w) (tE := tE) (mi := mi) (fun U h => h.1.narrow (fun q z => z.1.1)) (EC.closed _ tE mi) rfl (k_X6_tugs hsl (A := (fun q => (s.heap.size ≤ q ∧ q ∉ rL c7) ∧ q ≠ o)) (E := EC (fun q => (s.heap.size ≤ q ∧ q ∉ rL c7) ∧ q ≠ o) tE mi) (fun U h => h) c6 F G N Q)) mv_X6_tugs wm_L_140 (lw_rec6 C0) rfl rfl ⟨(Nat.le_of_ble_eq_true rfl), (Nat.le_of_ble_eq_true rfl)⟩ (Nat.le_of_ble_eq_true rfl) ⟨by show cells + 8 ≤ 601024; omega, by show slots + 300 ≤ 7293034; omega⟩ dL_law_1071 ?_
  refine j_aload_n C0 dL_law_1074 rfl ?_
  refine j_callVv C0 (As := []) (rest := [.int (vX6_tugs F G N Q)]) (lw_kr (F := F) (G := G) (N := N) (Q := Q) (w := w) (tE := tE) (c6 := c6) (D := D) (Y := Y) (E := EL (fun q => s.heap.size ≤ q) tE mi) ho hro (fun A' => k_X7_tugs hsl (A := A') (E := fun _ => True) c7 f g (zI_RI hz))) mv_X7_tugs wm_L_143 (lw_rec7 C0) rfl rfl ⟨(Nat.le_of_ble_eq_true rfl), (Nat.le_of_ble_eq_true rfl)⟩ (Nat.le_of_ble_eq_true rfl) ⟨by show cells + 8 + 0 ≤ 601024; omega, by show slots + 300 + 0 ≤ 7293034; omega⟩ dL_law_1075 ?_
  refine j_icmp_eq C0 1521 dL_law_1078 (by decide) (fun _ => ?_) (fun z => absurd hv z)
  exact j_widen (k := cells + (8 + 2 * (N 1 - N 1))) (n := slots + (300 + 165 * (N 1 - N 1))) (Nat.add_le_add_left (Nat.le_add_right 8 _) cells) (Nat.add_le_add_left (Nat.le_add_right 300 _) slots) (kk _ _ _ _ _ _ _ zi (Nat.le_refl _))
end
