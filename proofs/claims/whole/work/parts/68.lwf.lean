section
variable {p : Program} {l : Launch} {e : Env} {s : State} {m : MethodId} {args : Array Value} {below : List Frame} {meth : Method} {cd : Code} {Q9 : State → Prop} {ret9 : Option FieldType} {D : va_G} {Y : Nat → ClassId} {tE mi b Ls o cells slots i5 : Nat} {xs : Nat → Int32} {c6 c7 : Nat → Nat} {F : Nat → Int32} {G : Nat → Nat → Int32} {N : Nat → Nat} {Q : Nat → Nat → Nat} {f : Nat → Int32} {g : Nat → Nat → Int32} {w : Int64}
theorem zI_sw (h : zI F G N Q f g) : ∀ a : Int32, vp_in a 6 → ∃ j, j < 6 ∧ g 16 j = a := by
  obtain ⟨t, ⟨hT, hW, hP, _⟩, _⟩ := h
  intro a ha
  obtain ⟨q, hq, eq, _⟩ := zPm_at hP.2.2 ha
  exact ⟨q, hq, by rw [← hP.1 q hq]; exact eq⟩
theorem lw_rec7 {own : String} {cc : ByteArray} {nL : Nat} {E : State → Prop} (C0 : CX p l s m args meth cd own cc nL ret9 D Y (fun q => s.heap.size ≤ q) E) : RV s (LW D Y s.heap.size tE o c6 c7 F G N Q f g w) RX7 (c7 0) := fun H h => j_recv C0 (ws := wsR Y c7 (f 0) (f 1) (f 5) (f 18) (f 19) (f 20) (g 2) (g 3) (g 4) (g 6) (g 7) (g 8) (g 9) (g 10) (g 11) (g 12) (g 13) (g 14) (g 15) (g 16) (g 17) (g 21) (g 22) (g 23) (g 24) (g 25)) (ci := 10) rfl 0 rfl H h.2.1
theorem lw_rec6 {own : String} {cc : ByteArray} {nL : Nat} {E : State → Prop} (C0 : CX p l s m args meth cd own cc nL ret9 D Y (fun q => s.heap.size ≤ q) E) : RV s (LW D Y s.heap.size tE o c6 c7 F G N Q f g w) RX6 (c6 0) := fun H h => by
  obtain ⟨sa, ma, h3⟩ := h.1.re (A' := fun q => s.heap.size ≤ q) (fun q _ z => z.1.1)
  exact c_recv C0 (ci := 9) rfl 0 (fun cel h => ⟨_, ci_0 h⟩) H h3
theorem lc_table (hsl : l.stackTraces = false) (C0 : CX p l s m args meth cd RL cL_law 7 ret9 D Y (fun q => s.heap.size ≤ q) (EL (fun q => s.heap.size ≤ q) tE mi)) (hX : va_X b Ls xs s s.heap) (hbl : b < s.heap.size) (hLs : Ls ≤ 2560) (hi : i5 + 4 < Ls) (ho : s.heap.size ≤ o) (hro : o ∉ rL c7) (hc : cells + 300 ≤ 601024) (hs : slots + 17000 ≤ 7293034) (hz : zI F G N Q f g)
    (kk : ∀ (F' : Nat → Int32) (G' : Nat → Nat → Int32) (N' : Nat → Nat) (Q' : Nat → Nat → Nat) (f' : Nat → Int32) (g' : Nat → Nat → Int32) (w' : Int64), zI F' G' N' Q' f' g' → N 1 ≤ N' 1 → J p l e room_1 s m args below meth cd (fun q => s.heap.size ≤ q) 7 Q9 (LW D Y s.heap.size tE o c6 c7 F' G' N' Q' f' g' w') (cells + (8 + 2 * (N' 1 - N 1))) (slots + (300 + 165 * (N' 1 - N 1))) 1521 [(0, .ref b), (1, .ref (c6 0)), (2, .ref (c7 0)), (3, .ref o), (4, .int (nI i5))] []) :
    J p l e room_1 s m args below meth cd (fun q => s.heap.size ≤ q) 7 Q9 (LW D Y s.heap.size tE o c6 c7 F G N Q f g w) cells slots 152 [(0, .ref b), (1, .ref (c6 0)), (2, .ref (c7 0)), (3, .ref o), (4, .int (nI i5))] [] := by
  have hbA : ¬ (fun q => s.heap.size ≤ q) b := Nat.not_le.mpr hbl
  obtain ⟨zx, zi⟩ := zf_table (xs (i5 + 1)) (xs (i5 + 2)) hz
  have hzz : (eX6_table F G N Q (xs (i5 + 1)) (xs (i5 + 2)) = 0 ∧ (sX7_table f g (xs (i5 + 1)) (xs (i5 + 2))).1 0 = 0) ∨ (eX6_table F G N Q (xs (i5 + 1)) (xs (i5 + 2)), (sX7_table f g (xs (i5 + 1)) (xs (i5 + 2))).1 0) ∈ ([(1, 1), (2, 2), (3, 3)] : List (Nat × Int32)) := zx.imp (fun h => ⟨h.1, h.2.1⟩) id
  have hv : (sX7_table f g (xs (i5 + 1)) (xs (i5 + 2))).1 0 = 0 → vX6_table F G N Q (xs (i5 + 1)) (xs (i5 + 2)) = vX7_table f g (xs (i5 + 1)) (xs (i5 + 2)) := by
    intro h0
    rcases zx with h | h
    · exact h.2.2
    · rw [h0] at h
      simp at h
  refine j_aload_n C0 dL_law_152 rfl ?_
  refine j_word C0 hX hbl hbA (k := 1) rfl (by omega) hLs rfl rfl dL_law_153 dL_law_154 dL_law_156 dL_law_157 dL_law_158 ?_
  refine j_word C0 hX hbl hbA (k := 2) rfl (by omega) hLs rfl rfl dL_law_159 dL_law_160 dL_law_162 dL_law_163 dL_law_164 ?_
  refine j_aload_n C0 dL_law_165 rfl ?_
  refine j_callSW C0 (As := [.ref (c6 0), .int (xs (i5 + 1)), .int (xs (i5 + 2)), .ref o]) (rest := []) (lw_kw (P := fun w' => (sX7_table f g (xs (i5 + 1)) (xs (i5 + 2))).1 0 = 0 → w' = (vX6_table F G N Q (xs (i5 + 1)) (xs (i5 + 2))).toInt64) (f := f) (g := g) (kw_table hsl (A := (fun q => s.heap.size ≤ q ∧ q ∉ rL c7)) (E := EL (fun q => s.heap.size ≤ q ∧ q ∉ rL c7) tE mi) (fun U h => h) c6 F G N Q (xs (i5 + 1)) (xs (i5 + 2)) o ⟨ho, hro⟩ w ((sX7_table f g (xs (i5 + 1)) (xs (i5 + 2))).1 0) hzz)) msw_table wm_L_88 rfl rfl ⟨(Nat.le_of_ble_eq_true rfl), (Nat.le_of_ble_eq_true rfl)⟩ (Nat.le_of_ble_eq_true rfl) ⟨by show cells + (8) ≤ 601024; omega, by show slots + (300) ≤ 7293034; omega⟩ dL_law_166 ?_
  refine j_ex (fun w9 => j_and (fun hw9 => ?_))
  refine j_istore C0 dL_law_169 (Nat.le_of_ble_eq_true rfl) rfl ?_
  refine j_aload_n C0 dL_law_171 rfl ?_
  refine j_word C0 hX hbl hbA (k := 1) rfl (by omega) hLs rfl rfl dL_law_172 dL_law_173 dL_law_175 dL_law_176 dL_law_177 ?_
  refine j_word C0 hX hbl hbA (k := 2) rfl (by omega) hLs rfl rfl dL_law_178 dL_law_179 dL_law_181 dL_law_182 dL_law_183 ?_
  refine j_callVv C0 (As := [.int (xs (i5 + 1)), .int (xs (i5 + 2))]) (rest := []) (lw_kr (w := w9) (tE := tE) (c6 := c6) (D := D) (Y := Y) (E := EL (fun q => s.heap.size ≤ q) tE mi) ho hro (fun A' => k_X7_table hsl (A := A') (E := fun _ => True) c7 f g (xs (i5 + 1)) (xs (i5 + 2)) (zI_RI hz))) mv_X7_table wm_L_93 (lw_rec7 C0) rfl rfl ⟨(Nat.le_of_ble_eq_true rfl), (Nat.le_of_ble_eq_true rfl)⟩ (Nat.le_of_ble_eq_true rfl) ⟨by show cells + (8) + 0 ≤ 601024; omega, by show slots + (300) + 0 ≤ 7293034; omega⟩ dL_law_184 ?_
  refine j_istore C0 dL_law_187 (Nat.le_of_ble_eq_true rfl) rfl ?_
  refine j_aload_n C0 dL_law_189 rfl ?_
  refine j_callVv C0 (As := []) (rest := []) (lw_kr (w := w9) (tE := tE) (c6 := c6) (D := D) (Y := Y) (E := EL (fun q => s.heap.size ≤ q) tE mi) ho hro (fun A' => k_X7_thrown hsl (A := A') (E := fun _ => True) c7 (sX7_table f g (xs (i5 + 1)) (xs (i5 + 2))).1 (sX7_table f g (xs (i5 + 1)) (xs (i5 + 2))).2)) mv_X7_thrown wm_L_94 (lw_rec7 C0) rfl rfl ⟨(Nat.le_of_ble_eq_true rfl), (Nat.le_of_ble_eq_true rfl)⟩ (Nat.le_of_ble_eq_true rfl) ⟨by show cells + (8) + 0 + 0 ≤ 601024; omega, by show slots + (300) + 0 + 0 ≤ 7293034; omega⟩ dL_law_190 ?_
  refine j_iload C0 dL_law_193 rfl ?_
  refine j_icmp_eq C0 200 dL_law_195 (by decide) (fun _ => ?_) (fun z => absurd rfl z)
  refine j_iload C0 dL_law_200 rfl ?_
  have fin : J p l e room_1 s m args below meth cd (fun q => s.heap.size ≤ q) 7 Q9 (LW D Y s.heap.size tE o c6 c7 F (hu G 0 (sX6_table F G N Q (xs (i5 + 1)) (xs (i5 + 2)))) N Q (sX7_table f g (xs (i5 + 1)) (xs (i5 + 2))).1 (sX7_table f g (xs (i5 + 1)) (xs (i5 + 2))).2 w9) (cells + (8) + 0 + 0) (slots + (300) + 0 + 0) 217 ([(0, .ref b), (1, .ref (c6 0)), (2, .ref (c7 0)), (3, .ref o), (4, .int (nI i5))] ++ [(5, .int ((sX7_table f g (xs (i5 + 1)) (xs (i5 + 2))).1 0)), (6, .int (vX7_table f g (xs (i5 + 1)) (xs (i5 + 2))))]) [] := by
    refine j_goto C0 1521 dL_law_217 (by decide) ?_
    refine j_locals (L' := [(0, .ref b), (1, .ref (c6 0)), (2, .ref (c7 0)), (3, .ref o), (4, .int (nI i5))]) (fun q hq => List.mem_append_left _ hq) (lok_of rfl rfl) ?_
    exact j_widen (k := cells + (8 + 2 * (N 1 - N 1))) (n := slots + (300 + 165 * (N 1 - N 1))) (Nat.add_le_add_left (Nat.le_add_right 8 _) cells) (Nat.add_le_add_left (Nat.le_add_right 300 _) slots) (kk _ _ _ _ _ _ _ zi (Nat.le_refl _))
  refine j_if_ne C0 217 dL_law_202 (by decide) (fun _ => fin) (fun z0 => ?_)
  refine j_aload_n C0 dL_law_205 rfl ?_
  refine j_iconst C0 dL_law_206 (v := 0) rfl ?_
  refine j_laldO C0 (w := w9) dL_law_207 (fun H h => h.2.2) ?_
  refine j_iload C0 dL_law_208 rfl ?_
  refine j_i2l C0 dL_law_210 (v := (vX7_table f g (xs (i5 + 1)) (xs (i5 + 2))).toInt64) rfl ?_
  refine j_lcmp C0 dL_law_211 ?_
  exact j_if_eq C0 217 dL_law_212 (by decide) (fun _ => fin) (fun z => absurd (lg_cmp_0.mpr ((hw9 z0).trans (by rw [hv z0]))) z)
theorem lc_wind (hsl : l.stackTraces = false) (C0 : CX p l s m args meth cd RL cL_law 7 ret9 D Y (fun q => s.heap.size ≤ q) (EL (fun q => s.heap.size ≤ q) tE mi)) (hX : va_X b Ls xs s s.heap) (hbl : b < s.heap.size) (hLs : Ls ≤ 2560) (hi : i5 + 4 < Ls) (ho : s.heap.size ≤ o) (hro : o ∉ rL c7) (hc : cells + 300 ≤ 601024) (hs : slots + 17000 ≤ 7293034) (hz : zI F G N Q f g)
    (kk : ∀ (F' : Nat → Int32) (G' : Nat → Nat → Int32) (N' : Nat → Nat) (Q' : Nat → Nat → Nat) (f' : Nat → Int32) (g' : Nat → Nat → Int32) (w' : Int64), zI F' G' N' Q' f' g' → N 1 ≤ N' 1 → J p l e room_1 s m args below meth cd (fun q => s.heap.size ≤ q) 7 Q9 (LW D Y s.heap.size tE o c6 c7 F' G' N' Q' f' g' w') (cells + (8 + 2 * (N' 1 - N 1))) (slots + (300 + 165 * (N' 1 - N 1))) 1521 [(0, .ref b), (1, .ref (c6 0)), (2, .ref (c7 0)), (3, .ref o), (4, .int (nI i5))] []) :
    J p l e room_1 s m args below meth cd (fun q => s.heap.size ≤ q) 7 Q9 (LW D Y s.heap.size tE o c6 c7 F G N Q f g w) cells slots 220 [(0, .ref b), (1, .ref (c6 0)), (2, .ref (c7 0)), (3, .ref o), (4, .int (nI i5))] [] := by
  have hbA : ¬ (fun q => s.heap.size ≤ q) b := Nat.not_le.mpr hbl
  obtain ⟨zx, zi⟩ := zf_wind (xs (i5 + 1)) (xs (i5 + 2)) (xs (i5 + 3)) hz
  have hzz : (eX6_wind F G N Q (xs (i5 + 1)) (xs (i5 + 2)) (xs (i5 + 3)) = 0 ∧ (sX7_wind f g (xs (i5 + 1)) (xs (i5 + 2)) (xs (i5 + 3))).1 0 = 0) ∨ (eX6_wind F G N Q (xs (i5 + 1)) (xs (i5 + 2)) (xs (i5 + 3)), (sX7_wind f g (xs (i5 + 1)) (xs (i5 + 2)) (xs (i5 + 3))).1 0) ∈ ([(2, 1)] : List (Nat × Int32)) := zx.imp (fun h => ⟨h.1, h.2.1⟩) id
  have hv : (sX7_wind f g (xs (i5 + 1)) (xs (i5 + 2)) (xs (i5 + 3))).1 0 = 0 → vX6_wind F G N Q (xs (i5 + 1)) (xs (i5 + 2)) (xs (i5 + 3)) = vX7_wind f g (xs (i5 + 1)) (xs (i5 + 2)) (xs (i5 + 3)) := by
    intro h0
    rcases zx with h | h
    · exact h.2.2
    · rw [h0] at h
      simp at h
  refine j_aload_n C0 dL_law_220 rfl ?_
  refine j_word C0 hX hbl hbA (k := 1) rfl (by omega) hLs rfl rfl dL_law_221 dL_law_222 dL_law_224 dL_law_225 dL_law_226 ?_
  refine j_word C0 hX hbl hbA (k := 2) rfl (by omega) hLs rfl rfl dL_law_227 dL_law_228 dL_law_230 dL_law_231 dL_law_232 ?_
  refine j_word C0 hX hbl hbA (k := 3) rfl (by omega) hLs rfl rfl dL_law_233 dL_law_234 dL_law_236 dL_law_237 dL_law_238 ?_
  refine j_aload_n C0 dL_law_239 rfl ?_
  refine j_callSW C0 (As := [.ref (c6 0), .int (xs (i5 + 1)), .int (xs (i5 + 2)), .int (xs (i5 + 3)), .ref o]) (rest := []) (lw_kw (P := fun w' => (sX7_wind f g (xs (i5 + 1)) (xs (i5 + 2)) (xs (i5 + 3))).1 0 = 0 → w' = (vX6_wind F G N Q (xs (i5 + 1)) (xs (i5 + 2)) (xs (i5 + 3))).toInt64) (f := f) (g := g) (kw_wind hsl (A := (fun q => s.heap.size ≤ q ∧ q ∉ rL c7)) (E := EL (fun q => s.heap.size ≤ q ∧ q ∉ rL c7) tE mi) (fun U h => h) c6 F G N Q (xs (i5 + 1)) (xs (i5 + 2)) (xs (i5 + 3)) (zI_hnow hz) o ⟨ho, hro⟩ w ((sX7_wind f g (xs (i5 + 1)) (xs (i5 + 2)) (xs (i5 + 3))).1 0) hzz)) msw_wind wm_L_98 rfl rfl ⟨(Nat.le_of_ble_eq_true rfl), (Nat.le_of_ble_eq_true rfl)⟩ (Nat.le_of_ble_eq_true rfl) ⟨by show cells + (8) ≤ 601024; omega, by show slots + (300) ≤ 7293034; omega⟩ dL_law_240 ?_
  refine j_ex (fun w9 => j_and (fun hw9 => ?_))
  refine j_istore C0 dL_law_243 (Nat.le_of_ble_eq_true rfl) rfl ?_
  refine j_aload_n C0 dL_law_245 rfl ?_
  refine j_word C0 hX hbl hbA (k := 1) rfl (by omega) hLs rfl rfl dL_law_246 dL_law_247 dL_law_249 dL_law_250 dL_law_251 ?_
  refine j_word C0 hX hbl hbA (k := 2) rfl (by omega) hLs rfl rfl dL_law_252 dL_law_253 dL_law_255 dL_law_256 dL_law_257 ?_
  refine j_word C0 hX hbl hbA (k := 3) rfl (by omega) hLs rfl rfl dL_law_258 dL_law_259 dL_law_261 dL_law_262 dL_law_263 ?_
  refine j_callVv C0 (As := [.int (xs (i5 + 1)), .int (xs (i5 + 2)), .int (xs (i5 + 3))]) (rest := []) (lw_kr (w := w9) (tE := tE) (c6 := c6) (D := D) (Y := Y) (E := EL (fun q => s.heap.size ≤ q) tE mi) ho hro (fun A' => k_X7_wind hsl (A := A') (E := fun _ => True) c7 f g (xs (i5 + 1)) (xs (i5 + 2)) (xs (i5 + 3)) (zI_RI hz))) mv_X7_wind wm_L_101 (lw_rec7 C0) rfl rfl ⟨(Nat.le_of_ble_eq_true rfl), (Nat.le_of_ble_eq_true rfl)⟩ (Nat.le_of_ble_eq_true rfl) ⟨by show cells + (8) + 0 ≤ 601024; omega, by show slots + (300) + 0 ≤ 7293034; omega⟩ dL_law_264 ?_
  refine j_istore C0 dL_law_267 (Nat.le_of_ble_eq_true rfl) rfl ?_
  refine j_aload_n C0 dL_law_269 rfl ?_
  refine j_callVv C0 (As := []) (rest := []) (lw_kr (w := w9) (tE := tE) (c6 := c6) (D := D) (Y := Y) (E := EL (fun q => s.heap.size ≤ q) tE mi) ho hro (fun A' => k_X7_thrown hsl (A := A') (E := fun _ => True) c7 (sX7_wind f g (xs (i5 + 1)) (xs (i5 + 2)) (xs (i5 + 3))).1 (sX7_wind f g (xs (i5 + 1)) (xs (i5 + 2)) (xs (i5 + 3))).2)) mv_X7_thrown wm_L_94 (lw_rec7 C0) rfl rfl ⟨(Nat.le_of_ble_eq_true rfl), (Nat.le_of_ble_eq_true rfl)⟩ (Nat.le_of_ble_eq_true rfl) ⟨by show cells + (8) + 0 + 0 ≤ 601024; omega, by show slots + (300) + 0 + 0 ≤ 7293034; omega⟩ dL_law_270 ?_
  refine j_iload C0 dL_law_273 rfl ?_
  refine j_icmp_eq C0 280 dL_law_275 (by decide) (fun _ => ?_) (fun z => absurd rfl z)
  refine j_iload C0 dL_law_280 rfl ?_
  have fin : J p l e room_1 s m args below meth cd (fun q => s.heap.size ≤ q) 7 Q9 (LW D Y s.heap.size tE o c6 c7 F (hu G 1 (sX6_wind F G N Q (xs (i5 + 1)) (xs (i5 + 2)) (xs (i5 + 3)))) N Q (sX7_wind f g (xs (i5 + 1)) (xs (i5 + 2)) (xs (i5 + 3))).1 (sX7_wind f g (xs (i5 + 1)) (xs (i5 + 2)) (xs (i5 + 3))).2 w9) (cells + (8) + 0 + 0) (slots + (300) + 0 + 0) 297 ([(0, .ref b), (1, .ref (c6 0)), (2, .ref (c7 0)), (3, .ref o), (4, .int (nI i5))] ++ [(5, .int ((sX7_wind f g (xs (i5 + 1)) (xs (i5 + 2)) (xs (i5 + 3))).1 0)), (6, .int (vX7_wind f g (xs (i5 + 1)) (xs (i5 + 2)) (xs (i5 + 3))))]) [] := by
    refine j_goto C0 1521 dL_law_297 (by decide) ?_
    refine j_locals (L' := [(0, .ref b), (1, .ref (c6 0)), (2, .ref (c7 0)), (3, .ref o), (4, .int (nI i5))]) (fun q hq => List.mem_append_left _ hq) (lok_of rfl rfl) ?_
    exact j_widen (k := cells + (8 + 2 * (N 1 - N 1))) (n := slots + (300 + 165 * (N 1 - N 1))) (Nat.add_le_add_left (Nat.le_add_right 8 _) cells) (Nat.add_le_add_left (Nat.le_add_right 300 _) slots) (kk _ _ _ _ _ _ _ zi (Nat.le_refl _))
  refine j_if_ne C0 297 dL_law_282 (by decide) (fun _ => fin) (fun z0 => ?_)
  refine j_aload_n C0 dL_law_285 rfl ?_
  refine j_iconst C0 dL_law_286 (v := 0) rfl ?_
  refine j_laldO C0 (w := w9) dL_law_287 (fun H h => h.2.2) ?_
  refine j_iload C0 dL_law_288 rfl ?_
  refine j_i2l C0 dL_law_290 (v := (vX7_wind f g (xs (i5 + 1)) (xs (i5 + 2)) (xs (i5 + 3))).toInt64) rfl ?_
  refine j_lcmp C0 dL_law_291 ?_
  exact j_if_eq C0 297 dL_law_292 (by decide) (fun _ => fin) (fun z => absurd (lg_cmp_0.mpr ((hw9 z0).trans (by rw [hv z0]))) z)
theorem lc_depth (hsl : l.stackTraces = false) (C0 : CX p l s m args meth cd RL cL_law 7 ret9 D Y (fun q => s.heap.size ≤ q) (EL (fun q => s.heap.size ≤ q) tE mi)) (hX : va_X b Ls xs s s.heap) (hbl : b < s.heap.size) (hLs : Ls ≤ 2560) (hi : i5 + 4 < Ls) (ho : s.heap.size ≤ o) (hro : o ∉ rL c7) (hc : cells + 300 ≤ 601024) (hs : slots + 17000 ≤ 7293034) (hz : zI F G N Q f g)
    (kk : ∀ (F' : Nat → Int32) (G' : Nat → Nat → Int32) (N' : Nat → Nat) (Q' : Nat → Nat → Nat) (f' : Nat → Int32) (g' : Nat → Nat → Int32) (w' : Int64), zI F' G' N' Q' f' g' → N 1 ≤ N' 1 → J p l e room_1 s m args below meth cd (fun q => s.heap.size ≤ q) 7 Q9 (LW D Y s.heap.size tE o c6 c7 F' G' N' Q' f' g' w') (cells + (8 + 2 * (N' 1 - N 1))) (slots + (300 + 165 * (N' 1 - N 1))) 1521 [(0, .ref b), (1, .ref (c6 0)), (2, .ref (c7 0)), (3, .ref o), (4, .int (nI i5))] []) :
    J p l e room_1 s m args below meth cd (fun q => s.heap.size ≤ q) 7 Q9 (LW D Y s.heap.size tE o c6 c7 F G N Q f g w) cells slots 300 [(0, .ref b), (1, .ref (c6 0)), (2, .ref (c7 0)), (3, .ref o), (4, .int (nI i5))] [] := by
  have hbA : ¬ (fun q => s.heap.size ≤ q) b := Nat.not_le.mpr hbl
  obtain ⟨zx, zi⟩ := zf_depth (xs (i5 + 1)) hz
  have hzz : (eX6_depth F G N Q (xs (i5 + 1)) = 0 ∧ (sX7_depth f g (xs (i5 + 1))).1 0 = 0) ∨ (eX6_depth F G N Q (xs (i5 + 1)), (sX7_depth f g (xs (i5 + 1))).1 0) ∈ ([(2, 1)] : List (Nat × Int32)) := zx.imp (fun h => ⟨h.1, h.2.1⟩) id
  have hv : (sX7_depth f g (xs (i5 + 1))).1 0 = 0 → vX6_depth F G N Q (xs (i5 + 1)) = vX7_depth f g (xs (i5 + 1)) := by
    intro h0
    rcases zx with h | h
    · exact h.2.2
    · rw [h0] at h
      simp at h
  refine j_aload_n C0 dL_law_300 rfl ?_
  refine j_word C0 hX hbl hbA (k := 1) rfl (by omega) hLs rfl rfl dL_law_301 dL_law_302 dL_law_304 dL_law_305 dL_law_306 ?_
  refine j_aload_n C0 dL_law_307 rfl ?_
  refine j_callSW C0 (As := [.ref (c6 0), .int (xs (i5 + 1)), .ref o]) (rest := []) (lw_kw (P := fun w' => (sX7_depth f g (xs (i5 + 1))).1 0 = 0 → w' = (vX6_depth F G N Q (xs (i5 + 1))).toInt64) (f := f) (g := g) (kw_depth hsl (A := (fun q => s.heap.size ≤ q ∧ q ∉ rL c7)) (E := EL (fun q => s.heap.size ≤ q ∧ q ∉ rL c7) tE mi) (fun U h => h) c6 F G N Q (xs (i5 + 1)) o ⟨ho, hro⟩ w ((sX7_depth f g (xs (i5 + 1))).1 0) hzz)) msw_depth wm_L_102 rfl rfl ⟨(Nat.le_of_ble_eq_true rfl), (Nat.le_of_ble_eq_true rfl)⟩ (Nat.le_of_ble_eq_true rfl) ⟨by show cells + (8) ≤ 601024; omega, by show slots + (300) ≤ 7293034; omega⟩ dL_law_308 ?_
  refine j_ex (fun w9 => j_and (fun hw9 => ?_))
  refine j_istore C0 dL_law_311 (Nat.le_of_ble_eq_true rfl) rfl ?_
  refine j_aload_n C0 dL_law_313 rfl ?_
  refine j_word C0 hX hbl hbA (k := 1) rfl (by omega) hLs rfl rfl dL_law_314 dL_law_315 dL_law_317 dL_law_318 dL_law_319 ?_
  refine j_callVv C0 (As := [.int (xs (i5 + 1))]) (rest := []) (lw_kr (w := w9) (tE := tE) (c6 := c6) (D := D) (Y := Y) (E := EL (fun q => s.heap.size ≤ q) tE mi) ho hro (fun A' => k_X7_depth hsl (A := A') (E := fun _ => True) c7 f g (xs (i5 + 1)) (zI_RI hz))) mv_X7_depth wm_L_105 (lw_rec7 C0) rfl rfl ⟨(Nat.le_of_ble_eq_true rfl), (Nat.le_of_ble_eq_true rfl)⟩ (Nat.le_of_ble_eq_true rfl) ⟨by show cells + (8) + 0 ≤ 601024; omega, by show slots + (300) + 0 ≤ 7293034; omega⟩ dL_law_320 ?_
  refine j_istore C0 dL_law_323 (Nat.le_of_ble_eq_true rfl) rfl ?_
  refine j_aload_n C0 dL_law_325 rfl ?_
  refine j_callVv C0 (As := []) (rest := []) (lw_kr (w := w9) (tE := tE) (c6 := c6) (D := D) (Y := Y) (E := EL (fun q => s.heap.size ≤ q) tE mi) ho hro (fun A' => k_X7_thrown hsl (A := A') (E := fun _ => True) c7 (sX7_depth f g (xs (i5 + 1))).1 (sX7_depth f g (xs (i5 + 1))).2)) mv_X7_thrown wm_L_94 (lw_rec7 C0) rfl rfl ⟨(Nat.le_of_ble_eq_true rfl), (Nat.le_of_ble_eq_true rfl)⟩ (Nat.le_of_ble_eq_true rfl) ⟨by show cells + (8) + 0 + 0 ≤ 601024; omega, by show slots + (300) + 0 + 0 ≤ 7293034; omega⟩ dL_law_326 ?_
  refine j_iload C0 dL_law_329 rfl ?_
  refine j_icmp_eq C0 336 dL_law_331 (by decide) (fun _ => ?_) (fun z => absurd rfl z)
  refine j_iload C0 dL_law_336 rfl ?_
  have fin : J p l e room_1 s m args below meth cd (fun q => s.heap.size ≤ q) 7 Q9 (LW D Y s.heap.size tE o c6 c7 F G N Q (sX7_depth f g (xs (i5 + 1))).1 (sX7_depth f g (xs (i5 + 1))).2 w9) (cells + (8) + 0 + 0) (slots + (300) + 0 + 0) 353 ([(0, .ref b), (1, .ref (c6 0)), (2, .ref (c7 0)), (3, .ref o), (4, .int (nI i5))] ++ [(5, .int ((sX7_depth f g (xs (i5 + 1))).1 0)), (6, .int (vX7_depth f g (xs (i5 + 1))))]) [] := by
    refine j_goto C0 1521 dL_law_353 (by decide) ?_
    refine j_locals (L' := [(0, .ref b), (1, .ref (c6 0)), (2, .ref (c7 0)), (3, .ref o), (4, .int (nI i5))]) (fun q hq => List.mem_append_left _ hq) (lok_of rfl rfl) ?_
    exact j_widen (k := cells + (8 + 2 * (N 1 - N 1))) (n := slots + (300 + 165 * (N 1 - N 1))) (Nat.add_le_add_left (Nat.le_add_right 8 _) cells) (Nat.add_le_add_left (Nat.le_add_right 300 _) slots) (kk _ _ _ _ _ _ _ zi (Nat.le_refl _))
  refine j_if_ne C0 353 dL_law_338 (by decide) (fun _ => fin) (fun z0 => ?_)
  refine j_aload_n C0 dL_law_341 rfl ?_
  refine j_iconst C0 dL_law_342 (v := 0) rfl ?_
  refine j_laldO C0 (w := w9) dL_law_343 (fun H h => h.2.2) ?_
  refine j_iload C0 dL_law_344 rfl ?_
  refine j_i2l C0 dL_law_346 (v := (vX7_depth f g (xs (i5 + 1))).toInt64) rfl ?_
  refine j_lcmp C0 dL_law_347 ?_
  exact j_if_eq C0 353 dL_law_348 (by decide) (fun _ => fin) (fun z => absurd (lg_cmp_0.mpr ((hw9 z0).trans (by rw [hv z0]))) z)
theorem lc_berth (hsl : l.stackTraces = false) (C0 : CX p l s m args meth cd RL cL_law 7 ret9 D Y (fun q => s.heap.size ≤ q) (EL (fun q => s.heap.size ≤ q) tE mi)) (hX : va_X b Ls xs s s.heap) (hbl : b < s.heap.size) (hLs : Ls ≤ 2560) (hi : i5 + 4 < Ls) (ho : s.heap.size ≤ o) (hro : o ∉ rL c7) (hc : cells + 300 ≤ 601024) (hs : slots + 17000 ≤ 7293034) (hz : zI F G N Q f g)
    (kk : ∀ (F' : Nat → Int32) (G' : Nat → Nat → Int32) (N' : Nat → Nat) (Q' : Nat → Nat → Nat) (f' : Nat → Int32) (g' : Nat → Nat → Int32) (w' : Int64), zI F' G' N' Q' f' g' → N 1 ≤ N' 1 → J p l e room_1 s m args below meth cd (fun q => s.heap.size ≤ q) 7 Q9 (LW D Y s.heap.size tE o c6 c7 F' G' N' Q' f' g' w') (cells + (8 + 2 * (N' 1 - N 1))) (slots + (300 + 165 * (N' 1 - N 1))) 1521 [(0, .ref b), (1, .ref (c6 0)), (2, .ref (c7 0)), (3, .ref o), (4, .int (nI i5))] []) :
    J p l e room_1 s m args below meth cd (fun q => s.heap.size ≤ q) 7 Q9 (LW D Y s.heap.size tE o c6 c7 F G N Q f g w) cells slots 356 [(0, .ref b), (1, .ref (c6 0)), (2, .ref (c7 0)), (3, .ref o), (4, .int (nI i5))] [] := by
  have hbA : ¬ (fun q => s.heap.size ≤ q) b := Nat.not_le.mpr hbl
  obtain ⟨zx, zi⟩ := zf_berth (xs (i5 + 1)) (xs (i5 + 2)) hz
  have hzz : (eX6_berth F G N Q (xs (i5 + 1)) (xs (i5 + 2)) = 0 ∧ (sX7_berth f g (xs (i5 + 1)) (xs (i5 + 2))).1 0 = 0) ∨ (eX6_berth F G N Q (xs (i5 + 1)) (xs (i5 + 2)), (sX7_berth f g (xs (i5 + 1)) (xs (i5 + 2))).1 0) ∈ ([(1, 1), (2, 2), (3, 3)] : List (Nat × Int32)) := zx.imp (fun h => ⟨h.1, h.2.1⟩) id
  have hv : (sX7_berth f g (xs (i5 + 1)) (xs (i5 + 2))).1 0 = 0 → vX6_berth F G N Q (xs (i5 + 1)) (xs (i5 + 2)) = vX7_berth f g (xs (i5 + 1)) (xs (i5 + 2)) := by
    intro h0
    rcases zx with h | h
    · exact h.2.2
    · rw [h0] at h
      simp at h
  refine j_aload_n C0 dL_law_356 rfl ?_
  refine j_word C0 hX hbl hbA (k := 1) rfl (by omega) hLs rfl rfl dL_law_357 dL_law_358 dL_law_360 dL_law_361 dL_law_362 ?_
  refine j_word C0 hX hbl hbA (k := 2) rfl (by omega) hLs rfl rfl dL_law_363 dL_law_364 dL_law_366 dL_law_367 dL_law_368 ?_
  refine j_aload_n C0 dL_law_369 rfl ?_
  refine j_callSW C0 (As := [.ref (c6 0), .int (xs (i5 + 1)), .int (xs (i5 + 2)), .ref o]) (rest := []) (lw_kw (P := fun w' => (sX7_berth f g (xs (i5 + 1)) (xs (i5 + 2))).1 0 = 0 → w' = (vX6_berth F G N Q (xs (i5 + 1)) (xs (i5 + 2))).toInt64) (f := f) (g := g) (kw_berth hsl (A := (fun q => s.heap.size ≤ q ∧ q ∉ rL c7)) (E := EL (fun q => s.heap.size ≤ q ∧ q ∉ rL c7) tE mi) (fun U h => h) c6 F G N Q (xs (i5 + 1)) (xs (i5 + 2)) o ⟨ho, hro⟩ w ((sX7_berth f g (xs (i5 + 1)) (xs (i5 + 2))).1 0) hzz)) msw_berth wm_L_106 rfl rfl ⟨(Nat.le_of_ble_eq_true rfl), (Nat.le_of_ble_eq_true rfl)⟩ (Nat.le_of_ble_eq_true rfl) ⟨by show cells + (8) ≤ 601024; omega, by show slots + (300) ≤ 7293034; omega⟩ dL_law_370 ?_
  refine j_ex (fun w9 => j_and (fun hw9 => ?_))
  refine j_istore C0 dL_law_373 (Nat.le_of_ble_eq_true rfl) rfl ?_
  refine j_aload_n C0 dL_law_375 rfl ?_
  refine j_word C0 hX hbl hbA (k := 1) rfl (by omega) hLs rfl rfl dL_law_376 dL_law_377 dL_law_379 dL_law_380 dL_law_381 ?_
  refine j_word C0 hX hbl hbA (k := 2) rfl (by omega) hLs rfl rfl dL_law_382 dL_law_383 dL_law_385 dL_law_386 dL_law_387 ?_
  refine j_callVv C0 (As := [.int (xs (i5 + 1)), .int (xs (i5 + 2))]) (rest := []) (lw_kr (w := w9) (tE := tE) (c6 := c6) (D := D) (Y := Y) (E := EL (fun q => s.heap.size ≤ q) tE mi) ho hro (fun A' => k_X7_berth hsl (A := A') (E := fun _ => True) c7 f g (xs (i5 + 1)) (xs (i5 + 2)) (zI_RI hz))) mv_X7_berth wm_L_108 (lw_rec7 C0) rfl rfl ⟨(Nat.le_of_ble_eq_true rfl), (Nat.le_of_ble_eq_true rfl)⟩ (Nat.le_of_ble_eq_true rfl) ⟨by show cells + (8) + 0 ≤ 601024; omega, by show slots + (300) + 0 ≤ 7293034; omega⟩ dL_law_388 ?_
  refine j_istore C0 dL_law_391 (Nat.le_of_ble_eq_true rfl) rfl ?_
  refine j_aload_n C0 dL_law_393 rfl ?_
  refine j_callVv C0 (As := []) (rest := []) (lw_kr (w := w9) (tE := tE) (c6 := c6) (D := D) (Y := Y) (E := EL (fun q => s.heap.size ≤ q) tE mi) ho hro (fun A' => k_X7_thrown hsl (A := A') (E := fun _ => True) c7 (sX7_berth f g (xs (i5 + 1)) (xs (i5 + 2))).1 (sX7_berth f g (xs (i5 + 1)) (xs (i5 + 2))).2)) mv_X7_thrown wm_L_94 (lw_rec7 C0) rfl rfl ⟨(Nat.le_of_ble_eq_true rfl), (Nat.le_of_ble_eq_true rfl)⟩ (Nat.le_of_ble_eq_true rfl) ⟨by show cells + (8) + 0 + 0 ≤ 601024; omega, by show slots + (300) + 0 + 0 ≤ 7293034; omega⟩ dL_law_394 ?_
  refine j_iload C0 dL_law_397 rfl ?_
  refine j_icmp_eq C0 404 dL_law_399 (by decide) (fun _ => ?_) (fun z => absurd rfl z)
  refine j_iload C0 dL_law_404 rfl ?_
  have fin : J p l e room_1 s m args below meth cd (fun q => s.heap.size ≤ q) 7 Q9 (LW D Y s.heap.size tE o c6 c7 F (hu G 2 (sX6_berth F G N Q (xs (i5 + 1)) (xs (i5 + 2)))) N Q (sX7_berth f g (xs (i5 + 1)) (xs (i5 + 2))).1 (sX7_berth f g (xs (i5 + 1)) (xs (i5 + 2))).2 w9) (cells + (8) + 0 + 0) (slots + (300) + 0 + 0) 421 ([(0, .ref b), (1, .ref (c6 0)), (2, .ref (c7 0)), (3, .ref o), (4, .int (nI i5))] ++ [(5, .int ((sX7_berth f g (xs (i5 + 1)) (xs (i5 + 2))).1 0)), (6, .int (vX7_berth f g (xs (i5 + 1)) (xs (i5 + 2))))]) [] := by
    refine j_goto C0 1521 dL_law_421 (by decide) ?_
    refine j_locals (L' := [(0, .ref b), (1, .ref (c6 0)), (2, .ref (c7 0)), (3, .ref o), (4, .int (nI i5))]) (fun q hq => List.mem_append_left _ hq) (lok_of rfl rfl) ?_
    exact j_widen (k := cells + (8 + 2 * (N 1 - N 1))) (n := slots + (300 + 165 * (N 1 - N 1))) (Nat.add_le_add_left (Nat.le_add_right 8 _) cells) (Nat.add_le_add_left (Nat.le_add_right 300 _) slots) (kk _ _ _ _ _ _ _ zi (Nat.le_refl _))
  refine j_if_ne C0 421 dL_law_406 (by decide) (fun _ => fin) (fun z0 => ?_)
  refine j_aload_n C0 dL_law_409 rfl ?_
  refine j_iconst C0 dL_law_410 (v := 0) rfl ?_
  refine j_laldO C0 (w := w9) dL_law_411 (fun H h => h.2.2) ?_
  refine j_iload C0 dL_law_412 rfl ?_
  refine j_i2l C0 dL_law_414 (v := (vX7_berth f g (xs (i5 + 1)) (xs (i5 + 2))).toInt64) rfl ?_
  refine j_lcmp C0 dL_law_415 ?_
  exact j_if_eq C0 421 dL_law_416 (by decide) (fun _ => fin) (fun z => absurd (lg_cmp_0.mpr ((hw9 z0).trans (by rw [hv z0]))) z)
theorem lc_ship (hsl : l.stackTraces = false) (C0 : CX p l s m args meth cd RL cL_law 7 ret9 D Y (fun q => s.heap.size ≤ q) (EL (fun q => s.heap.size ≤ q) tE mi)) (hX : va_X b Ls xs s s.heap) (hbl : b < s.heap.size) (hLs : Ls ≤ 2560) (hi : i5 + 4 < Ls) (ho : s.heap.size ≤ o) (hro : o ∉ rL c7) (hc : cells + 300 ≤ 601024) (hs : slots + 17000 ≤ 7293034) (hz : zI F G N Q f g)
    (kk : ∀ (F' : Nat → Int32) (G' : Nat → Nat → Int32) (N' : Nat → Nat) (Q' : Nat → Nat → Nat) (f' : Nat → Int32) (g' : Nat → Nat → Int32) (w' : Int64), zI F' G' N' Q' f' g' → N 1 ≤ N' 1 → J p l e room_1 s m args below meth cd (fun q => s.heap.size ≤ q) 7 Q9 (LW D Y s.heap.size tE o c6 c7 F' G' N' Q' f' g' w') (cells + (8 + 2 * (N' 1 - N 1))) (slots + (300 + 165 * (N' 1 - N 1))) 1521 [(0, .ref b), (1, .ref (c6 0)), (2, .ref (c7 0)), (3, .ref o), (4, .int (nI i5))] []) :
    J p l e room_1 s m args below meth cd (fun q => s.heap.size ≤ q) 7 Q9 (LW D Y s.heap.size tE o c6 c7 F G N Q f g w) cells slots 424 [(0, .ref b), (1, .ref (c6 0)), (2, .ref (c7 0)), (3, .ref o), (4, .int (nI i5))] [] := by
  have hbA : ¬ (fun q => s.heap.size ≤ q) b := Nat.not_le.mpr hbl
  obtain ⟨zx, zi⟩ := zf_ship (xs (i5 + 1)) (xs (i5 + 2)) (xs (i5 + 3)) (xs (i5 + 4)) hz
  have hzz : (eX6_ship F G N Q (xs (i5 + 1)) (xs (i5 + 2)) (xs (i5 + 3)) (xs (i5 + 4)) = 0 ∧ (sX7_ship f g (xs (i5 + 1)) (xs (i5 + 2)) (xs (i5 + 3)) (xs (i5 + 4))).1 0 = 0) ∨ (eX6_ship F G N Q (xs (i5 + 1)) (xs (i5 + 2)) (xs (i5 + 3)) (xs (i5 + 4)), (sX7_ship f g (xs (i5 + 1)) (xs (i5 + 2)) (xs (i5 + 3)) (xs (i5 + 4))).1 0) ∈ ([(1, 1), (2, 2), (3, 3)] : List (Nat × Int32)) := zx.imp (fun h => ⟨h.1, h.2.1⟩) id
  have hv : (sX7_ship f g (xs (i5 + 1)) (xs (i5 + 2)) (xs (i5 + 3)) (xs (i5 + 4))).1 0 = 0 → vX6_ship F G N Q (xs (i5 + 1)) (xs (i5 + 2)) (xs (i5 + 3)) (xs (i5 + 4)) = vX7_ship f g (xs (i5 + 1)) (xs (i5 + 2)) (xs (i5 + 3)) (xs (i5 + 4)) := by
    intro h0
    rcases zx with h | h
    · exact h.2.2
    · rw [h0] at h
      simp at h
  refine j_aload_n C0 dL_law_424 rfl ?_
  refine j_word C0 hX hbl hbA (k := 1) rfl (by omega) hLs rfl rfl dL_law_425 dL_law_426 dL_law_428 dL_law_429 dL_law_430 ?_
  refine j_word C0 hX hbl hbA (k := 2) rfl (by omega) hLs rfl rfl dL_law_431 dL_law_432 dL_law_434 dL_law_435 dL_law_436 ?_
  refine j_word C0 hX hbl hbA (k := 3) rfl (by omega) hLs rfl rfl dL_law_437 dL_law_438 dL_law_440 dL_law_441 dL_law_442 ?_
  refine j_word C0 hX hbl hbA (k := 4) rfl (by omega) hLs rfl rfl dL_law_443 dL_law_444 dL_law_446 dL_law_447 dL_law_448 ?_
  refine j_aload_n C0 dL_law_449 rfl ?_
  refine j_callSW C0 (As := [.ref (c6 0), .int (xs (i5 + 1)), .int (xs (i5 + 2)), .int (xs (i5 + 3)), .int (xs (i5 + 4)), .ref o]) (rest := []) (lw_kw (P := fun w' => (sX7_ship f g (xs (i5 + 1)) (xs (i5 + 2)) (xs (i5 + 3)) (xs (i5 + 4))).1 0 = 0 → w' = (vX6_ship F G N Q (xs (i5 + 1)) (xs (i5 + 2)) (xs (i5 + 3)) (xs (i5 + 4))).toInt64) (f := f) (g := g) (kw_ship hsl (A := (fun q => s.heap.size ≤ q ∧ q ∉ rL c7)) (E := EL (fun q => s.heap.size ≤ q ∧ q ∉ rL c7) tE mi) (fun U h => h) c6 F G N Q (xs (i5 + 1)) (xs (i5 + 2)) (xs (i5 + 3)) (xs (i5 + 4)) o ⟨ho, hro⟩ w ((sX7_ship f g (xs (i5 + 1)) (xs (i5 + 2)) (xs (i5 + 3)) (xs (i5 + 4))).1 0) hzz)) msw_ship wm_L_109 rfl rfl ⟨(Nat.le_of_ble_eq_true rfl), (Nat.le_of_ble_eq_true rfl)⟩ (Nat.le_of_ble_eq_true rfl) ⟨by show cells + (8) ≤ 601024; omega, by show slots + (300) ≤ 7293034; omega⟩ dL_law_450 ?_
  refine j_ex (fun w9 => j_and (fun hw9 => ?_))
  refine j_istore C0 dL_law_453 (Nat.le_of_ble_eq_true rfl) rfl ?_
  refine j_aload_n C0 dL_law_455 rfl ?_
  refine j_word C0 hX hbl hbA (k := 1) rfl (by omega) hLs rfl rfl dL_law_456 dL_law_457 dL_law_459 dL_law_460 dL_law_461 ?_
  refine j_word C0 hX hbl hbA (k := 2) rfl (by omega) hLs rfl rfl dL_law_462 dL_law_463 dL_law_465 dL_law_466 dL_law_467 ?_
  refine j_word C0 hX hbl hbA (k := 3) rfl (by omega) hLs rfl rfl dL_law_468 dL_law_469 dL_law_471 dL_law_472 dL_law_473 ?_
  refine j_word C0 hX hbl hbA (k := 4) rfl (by omega) hLs rfl rfl dL_law_474 dL_law_475 dL_law_477 dL_law_478 dL_law_479 ?_
  refine j_callVv C0 (As := [.int (xs (i5 + 1)), .int (xs (i5 + 2)), .int (xs (i5 + 3)), .int (xs (i5 + 4))]) (rest := []) (lw_kr (w := w9) (tE := tE) (c6 := c6) (D := D) (Y := Y) (E := EL (fun q => s.heap.size ≤ q) tE mi) ho hro (fun A' => k_X7_ship hsl (A := A') (E := fun _ => True) c7 f g (xs (i5 + 1)) (xs (i5 + 2)) (xs (i5 + 3)) (xs (i5 + 4)) (zI_RI hz))) mv_X7_ship wm_L_112 (lw_rec7 C0) rfl rfl ⟨(Nat.le_of_ble_eq_true rfl), (Nat.le_of_ble_eq_true rfl)⟩ (Nat.le_of_ble_eq_true rfl) ⟨by show cells + (8) + 0 ≤ 601024; omega, by show slots + (300) + 0 ≤ 7293034; omega⟩ dL_law_480 ?_
  refine j_istore C0 dL_law_483 (Nat.le_of_ble_eq_true rfl) rfl ?_
  refine j_aload_n C0 dL_law_485 rfl ?_
  refine j_callVv C0 (As := []) (rest := []) (lw_kr (w := w9) (tE := tE) (c6 := c6) (D := D) (Y := Y) (E := EL (fun q => s.heap.size ≤ q) tE mi) ho hro (fun A' => k_X7_thrown hsl (A := A') (E := fun _ => True) c7 (sX7_ship f g (xs (i5 + 1)) (xs (i5 + 2)) (xs (i5 + 3)) (xs (i5 + 4))).1 (sX7_ship f g (xs (i5 + 1)) (xs (i5 + 2)) (xs (i5 + 3)) (xs (i5 + 4))).2)) mv_X7_thrown wm_L_94 (lw_rec7 C0) rfl rfl ⟨(Nat.le_of_ble_eq_true rfl), (Nat.le_of_ble_eq_true rfl)⟩ (Nat.le_of_ble_eq_true rfl) ⟨by show cells + (8) + 0 + 0 ≤ 601024; omega, by show slots + (300) + 0 + 0 ≤ 7293034; omega⟩ dL_law_486 ?_
  refine j_iload C0 dL_law_489 rfl ?_
  refine j_icmp_eq C0 496 dL_law_491 (by decide) (fun _ => ?_) (fun z => absurd rfl z)
  refine j_iload C0 dL_law_496 rfl ?_
  have fin : J p l e room_1 s m args below meth cd (fun q => s.heap.size ≤ q) 7 Q9 (LW D Y s.heap.size tE o c6 c7 F (hu (hu (hu (hu (hu (hu (hu (hu (hu (hu (hu G 5 (sX6_ship F G N Q (xs (i5 + 1)) (xs (i5 + 2)) (xs (i5 + 3)) (xs (i5 + 4))).2.1) 6 (sX6_ship F G N Q (xs (i5 + 1)) (xs (i5 + 2)) (xs (i5 + 3)) (xs (i5 + 4))).2.2.1) 7 (sX6_ship F G N Q (xs (i5 + 1)) (xs (i5 + 2)) (xs (i5 + 3)) (xs (i5 + 4))).2.2.2.1) 8 (sX6_ship F G N Q (xs (i5 + 1)) (xs (i5 + 2)) (xs (i5 + 3)) (xs (i5 + 4))).2.2.2.2.1) 9 (sX6_ship F G N Q (xs (i5 + 1)) (xs (i5 + 2)) (xs (i5 + 3)) (xs (i5 + 4))).2.2.2.2.2.1) 10 (sX6_ship F G N Q (xs (i5 + 1)) (xs (i5 + 2)) (xs (i5 + 3)) (xs (i5 + 4))).2.2.2.2.2.2.1) 11 (sX6_ship F G N Q (xs (i5 + 1)) (xs (i5 + 2)) (xs (i5 + 3)) (xs (i5 + 4))).2.2.2.2.2.2.2.1) 12 (sX6_ship F G N Q (xs (i5 + 1)) (xs (i5 + 2)) (xs (i5 + 3)) (xs (i5 + 4))).2.2.2.2.2.2.2.2.1) 13 (sX6_ship F G N Q (xs (i5 + 1)) (xs (i5 + 2)) (xs (i5 + 3)) (xs (i5 + 4))).2.2.2.2.2.2.2.2.2.1) 14 (sX6_ship F G N Q (xs (i5 + 1)) (xs (i5 + 2)) (xs (i5 + 3)) (xs (i5 + 4))).2.2.2.2.2.2.2.2.2.2.1) 15 (sX6_ship F G N Q (xs (i5 + 1)) (xs (i5 + 2)) (xs (i5 + 3)) (xs (i5 + 4))).2.2.2.2.2.2.2.2.2.2.2) (hu N 0 (sX6_ship F G N Q (xs (i5 + 1)) (xs (i5 + 2)) (xs (i5 + 3)) (xs (i5 + 4))).1) Q (sX7_ship f g (xs (i5 + 1)) (xs (i5 + 2)) (xs (i5 + 3)) (xs (i5 + 4))).1 (sX7_ship f g (xs (i5 + 1)) (xs (i5 + 2)) (xs (i5 + 3)) (xs (i5 + 4))).2 w9) (cells + (8) + 0 + 0) (slots + (300) + 0 + 0) 513 ([(0, .ref b), (1, .ref (c6 0)), (2, .ref (c7 0)), (3, .ref o), (4, .int (nI i5))] ++ [(5, .int ((sX7_ship f g (xs (i5 + 1)) (xs (i5 + 2)) (xs (i5 + 3)) (xs (i5 + 4))).1 0)), (6, .int (vX7_ship f g (xs (i5 + 1)) (xs (i5 + 2)) (xs (i5 + 3)) (xs (i5 + 4))))]) [] := by
    refine j_goto C0 1521 dL_law_513 (by decide) ?_
    refine j_locals (L' := [(0, .ref b), (1, .ref (c6 0)), (2, .ref (c7 0)), (3, .ref o), (4, .int (nI i5))]) (fun q hq => List.mem_append_left _ hq) (lok_of rfl rfl) ?_
    exact j_widen (k := cells + (8 + 2 * (N 1 - N 1))) (n := slots + (300 + 165 * (N 1 - N 1))) (Nat.add_le_add_left (Nat.le_add_right 8 _) cells) (Nat.add_le_add_left (Nat.le_add_right 300 _) slots) (kk _ _ _ _ _ _ _ zi (Nat.le_refl _))
  refine j_if_ne C0 513 dL_law_498 (by decide) (fun _ => fin) (fun z0 => ?_)
  refine j_aload_n C0 dL_law_501 rfl ?_
  refine j_iconst C0 dL_law_502 (v := 0) rfl ?_
  refine j_laldO C0 (w := w9) dL_law_503 (fun H h => h.2.2) ?_
  refine j_iload C0 dL_law_504 rfl ?_
  refine j_i2l C0 dL_law_506 (v := (vX7_ship f g (xs (i5 + 1)) (xs (i5 + 2)) (xs (i5 + 3)) (xs (i5 + 4))).toInt64) rfl ?_
  refine j_lcmp C0 dL_law_507 ?_
  exact j_if_eq C0 513 dL_law_508 (by decide) (fun _ => fin) (fun z => absurd (lg_cmp_0.mpr ((hw9 z0).trans (by rw [hv z0]))) z)
theorem lc_order (hsl : l.stackTraces = false) (C0 : CX p l s m args meth cd RL cL_law 7 ret9 D Y (fun q => s.heap.size ≤ q) (EL (fun q => s.heap.size ≤ q) tE mi)) (hX : va_X b Ls xs s s.heap) (hbl : b < s.heap.size) (hLs : Ls ≤ 2560) (hi : i5 + 4 < Ls) (ho : s.heap.size ≤ o) (hro : o ∉ rL c7) (hc : cells + 300 ≤ 601024) (hs : slots + 17000 ≤ 7293034) (hz : zI F G N Q f g)
    (kk : ∀ (F' : Nat → Int32) (G' : Nat → Nat → Int32) (N' : Nat → Nat) (Q' : Nat → Nat → Nat) (f' : Nat → Int32) (g' : Nat → Nat → Int32) (w' : Int64), zI F' G' N' Q' f' g' → N 1 ≤ N' 1 → J p l e room_1 s m args below meth cd (fun q => s.heap.size ≤ q) 7 Q9 (LW D Y s.heap.size tE o c6 c7 F' G' N' Q' f' g' w') (cells + (8 + 2 * (N' 1 - N 1))) (slots + (300 + 165 * (N' 1 - N 1))) 1521 [(0, .ref b), (1, .ref (c6 0)), (2, .ref (c7 0)), (3, .ref o), (4, .int (nI i5))] []) :
    J p l e room_1 s m args below meth cd (fun q => s.heap.size ≤ q) 7 Q9 (LW D Y s.heap.size tE o c6 c7 F G N Q f g w) cells slots 516 [(0, .ref b), (1, .ref (c6 0)), (2, .ref (c7 0)), (3, .ref o), (4, .int (nI i5))] [] := by
  have hbA : ¬ (fun q => s.heap.size ≤ q) b := Nat.not_le.mpr hbl
  obtain ⟨zx, zi⟩ := zf_order (xs (i5 + 1)) (xs (i5 + 2)) hz
  have hzz : (eX6_order F G N Q (xs (i5 + 1)) (xs (i5 + 2)) = 0 ∧ (sX7_order f g (xs (i5 + 1)) (xs (i5 + 2))).1 0 = 0) ∨ (eX6_order F G N Q (xs (i5 + 1)) (xs (i5 + 2)), (sX7_order f g (xs (i5 + 1)) (xs (i5 + 2))).1 0) ∈ ([(1, 1), (2, 2), (3, 3)] : List (Nat × Int32)) := zx.imp (fun h => ⟨h.1, h.2.1⟩) id
  have hv : (sX7_order f g (xs (i5 + 1)) (xs (i5 + 2))).1 0 = 0 → vX6_order F G N Q (xs (i5 + 1)) (xs (i5 + 2)) = vX7_order f g (xs (i5 + 1)) (xs (i5 + 2)) := by
    intro h0
    rcases zx with h | h
    · exact h.2.2
    · rw [h0] at h
      simp at h
  refine j_aload_n C0 dL_law_516 rfl ?_
  refine j_word C0 hX hbl hbA (k := 1) rfl (by omega) hLs rfl rfl dL_law_517 dL_law_518 dL_law_520 dL_law_521 dL_law_522 ?_
  refine j_word C0 hX hbl hbA (k := 2) rfl (by omega) hLs rfl rfl dL_law_523 dL_law_524 dL_law_526 dL_law_527 dL_law_528 ?_
  refine j_aload_n C0 dL_law_529 rfl ?_
  refine j_callSW C0 (As := [.ref (c6 0), .int (xs (i5 + 1)), .int (xs (i5 + 2)), .ref o]) (rest := []) (lw_kw (P := fun w' => (sX7_order f g (xs (i5 + 1)) (xs (i5 + 2))).1 0 = 0 → w' = (vX6_order F G N Q (xs (i5 + 1)) (xs (i5 + 2))).toInt64) (f := f) (g := g) (kw_order hsl (A := (fun q => s.heap.size ≤ q ∧ q ∉ rL c7)) (E := EL (fun q => s.heap.size ≤ q ∧ q ∉ rL c7) tE mi) (fun U h => h) c6 F G N Q (xs (i5 + 1)) (xs (i5 + 2)) (zI_h9 hz) o ⟨ho, hro⟩ w ((sX7_order f g (xs (i5 + 1)) (xs (i5 + 2))).1 0) hzz)) msw_order wm_L_113 rfl rfl ⟨(Nat.le_of_ble_eq_true rfl), (Nat.le_of_ble_eq_true rfl)⟩ (Nat.le_of_ble_eq_true rfl) ⟨by show cells + (8) ≤ 601024; omega, by show slots + (300) ≤ 7293034; omega⟩ dL_law_530 ?_
  refine j_ex (fun w9 => j_and (fun hw9 => ?_))
  refine j_istore C0 dL_law_533 (Nat.le_of_ble_eq_true rfl) rfl ?_
  refine j_aload_n C0 dL_law_535 rfl ?_
  refine j_word C0 hX hbl hbA (k := 1) rfl (by omega) hLs rfl rfl dL_law_536 dL_law_537 dL_law_539 dL_law_540 dL_law_541 ?_
  refine j_word C0 hX hbl hbA (k := 2) rfl (by omega) hLs rfl rfl dL_law_542 dL_law_543 dL_law_545 dL_law_546 dL_law_547 ?_
  refine j_callVv C0 (As := [.int (xs (i5 + 1)), .int (xs (i5 + 2))]) (rest := []) (lw_kr (w := w9) (tE := tE) (c6 := c6) (D := D) (Y := Y) (E := EL (fun q => s.heap.size ≤ q) tE mi) ho hro (fun A' => k_X7_order hsl (A := A') (E := fun _ => True) c7 f g (xs (i5 + 1)) (xs (i5 + 2)) (zI_RI hz))) mv_X7_order wm_L_115 (lw_rec7 C0) rfl rfl ⟨(Nat.le_of_ble_eq_true rfl), (Nat.le_of_ble_eq_true rfl)⟩ (Nat.le_of_ble_eq_true rfl) ⟨by show cells + (8) + 0 ≤ 601024; omega, by show slots + (300) + 0 ≤ 7293034; omega⟩ dL_law_548 ?_
  refine j_istore C0 dL_law_551 (Nat.le_of_ble_eq_true rfl) rfl ?_
  refine j_aload_n C0 dL_law_553 rfl ?_
  refine j_callVv C0 (As := []) (rest := []) (lw_kr (w := w9) (tE := tE) (c6 := c6) (D := D) (Y := Y) (E := EL (fun q => s.heap.size ≤ q) tE mi) ho hro (fun A' => k_X7_thrown hsl (A := A') (E := fun _ => True) c7 (sX7_order f g (xs (i5 + 1)) (xs (i5 + 2))).1 (sX7_order f g (xs (i5 + 1)) (xs (i5 + 2))).2)) mv_X7_thrown wm_L_94 (lw_rec7 C0) rfl rfl ⟨(Nat.le_of_ble_eq_true rfl), (Nat.le_of_ble_eq_true rfl)⟩ (Nat.le_of_ble_eq_true rfl) ⟨by show cells + (8) + 0 + 0 ≤ 601024; omega, by show slots + (300) + 0 + 0 ≤ 7293034; omega⟩ dL_law_554 ?_
  refine j_iload C0 dL_law_557 rfl ?_
  refine j_icmp_eq C0 564 dL_law_559 (by decide) (fun _ => ?_) (fun z => absurd rfl z)
  refine j_iload C0 dL_law_564 rfl ?_
  have fin : J p l e room_1 s m args below meth cd (fun q => s.heap.size ≤ q) 7 Q9 (LW D Y s.heap.size tE o c6 c7 F (hu G 12 (sX6_order F G N Q (xs (i5 + 1)) (xs (i5 + 2))).2.2) (hu N 2 (sX6_order F G N Q (xs (i5 + 1)) (xs (i5 + 2))).1) (hu Q 0 (sX6_order F G N Q (xs (i5 + 1)) (xs (i5 + 2))).2.1) (sX7_order f g (xs (i5 + 1)) (xs (i5 + 2))).1 (sX7_order f g (xs (i5 + 1)) (xs (i5 + 2))).2 w9) (cells + (8) + 0 + 0) (slots + (300) + 0 + 0) 581 ([(0, .ref b), (1, .ref (c6 0)), (2, .ref (c7 0)), (3, .ref o), (4, .int (nI i5))] ++ [(5, .int ((sX7_order f g (xs (i5 + 1)) (xs (i5 + 2))).1 0)), (6, .int (vX7_order f g (xs (i5 + 1)) (xs (i5 + 2))))]) [] := by
    refine j_goto C0 1521 dL_law_581 (by decide) ?_
    refine j_locals (L' := [(0, .ref b), (1, .ref (c6 0)), (2, .ref (c7 0)), (3, .ref o), (4, .int (nI i5))]) (fun q hq => List.mem_append_left _ hq) (lok_of rfl rfl) ?_
    exact j_widen (k := cells + (8 + 2 * (N 1 - N 1))) (n := slots + (300 + 165 * (N 1 - N 1))) (Nat.add_le_add_left (Nat.le_add_right 8 _) cells) (Nat.add_le_add_left (Nat.le_add_right 300 _) slots) (kk _ _ _ _ _ _ _ zi (Nat.le_refl _))
  refine j_if_ne C0 581 dL_law_566 (by decide) (fun _ => fin) (fun z0 => ?_)
  refine j_aload_n C0 dL_law_569 rfl ?_
  refine j_iconst C0 dL_law_570 (v := 0) rfl ?_
  refine j_laldO C0 (w := w9) dL_law_571 (fun H h => h.2.2) ?_
  refine j_iload C0 dL_law_572 rfl ?_
  refine j_i2l C0 dL_law_574 (v := (vX7_order f g (xs (i5 + 1)) (xs (i5 + 2))).toInt64) rfl ?_
  refine j_lcmp C0 dL_law_575 ?_
  exact j_if_eq C0 581 dL_law_576 (by decide) (fun _ => fin) (fun z => absurd (lg_cmp_0.mpr ((hw9 z0).trans (by rw [hv z0]))) z)
theorem lc_cancel (hsl : l.stackTraces = false) (C0 : CX p l s m args meth cd RL cL_law 7 ret9 D Y (fun q => s.heap.size ≤ q) (EL (fun q => s.heap.size ≤ q) tE mi)) (hX : va_X b Ls xs s s.heap) (hbl : b < s.heap.size) (hLs : Ls ≤ 2560) (hi : i5 + 4 < Ls) (ho : s.heap.size ≤ o) (hro : o ∉ rL c7) (hc : cells + 300 ≤ 601024) (hs : slots + 17000 ≤ 7293034) (hz : zI F G N Q f g)
    (kk : ∀ (F' : Nat → Int32) (G' : Nat → Nat → Int32) (N' : Nat → Nat) (Q' : Nat → Nat → Nat) (f' : Nat → Int32) (g' : Nat → Nat → Int32) (w' : Int64), zI F' G' N' Q' f' g' → N 1 ≤ N' 1 → J p l e room_1 s m args below meth cd (fun q => s.heap.size ≤ q) 7 Q9 (LW D Y s.heap.size tE o c6 c7 F' G' N' Q' f' g' w') (cells + (8 + 2 * (N' 1 - N 1))) (slots + (300 + 165 * (N' 1 - N 1))) 1521 [(0, .ref b), (1, .ref (c6 0)), (2, .ref (c7 0)), (3, .ref o), (4, .int (nI i5))] []) :
    J p l e room_1 s m args below meth cd (fun q => s.heap.size ≤ q) 7 Q9 (LW D Y s.heap.size tE o c6 c7 F G N Q f g w) cells slots 584 [(0, .ref b), (1, .ref (c6 0)), (2, .ref (c7 0)), (3, .ref o), (4, .int (nI i5))] [] := by
  have hbA : ¬ (fun q => s.heap.size ≤ q) b := Nat.not_le.mpr hbl
  obtain ⟨zx, zi⟩ := zf_cancel (xs (i5 + 1)) hz
  have hzz : (eX6_cancel F G N Q (xs (i5 + 1)) = 0 ∧ (sX7_cancel f g (xs (i5 + 1))).1 0 = 0) ∨ (eX6_cancel F G N Q (xs (i5 + 1)), (sX7_cancel f g (xs (i5 + 1))).1 0) ∈ ([(1, 1), (3, 2)] : List (Nat × Int32)) := zx.imp (fun h => ⟨h.1, h.2.1⟩) id
  have hv : (sX7_cancel f g (xs (i5 + 1))).1 0 = 0 → vX6_cancel F G N Q (xs (i5 + 1)) = vX7_cancel f g (xs (i5 + 1)) := by
    intro h0
    rcases zx with h | h
    · exact h.2.2
    · rw [h0] at h
      simp at h
  refine j_aload_n C0 dL_law_584 rfl ?_
  refine j_word C0 hX hbl hbA (k := 1) rfl (by omega) hLs rfl rfl dL_law_585 dL_law_586 dL_law_588 dL_law_589 dL_law_590 ?_
  refine j_aload_n C0 dL_law_591 rfl ?_
  refine j_callSW C0 (As := [.ref (c6 0), .int (xs (i5 + 1)), .ref o]) (rest := []) (lw_kw (P := fun w' => (sX7_cancel f g (xs (i5 + 1))).1 0 = 0 → w' = (vX6_cancel F G N Q (xs (i5 + 1))).toInt64) (f := f) (g := g) (kw_cancel hsl (A := (fun q => s.heap.size ≤ q ∧ q ∉ rL c7)) (E := EL (fun q => s.heap.size ≤ q ∧ q ∉ rL c7) tE mi) (fun U h => h) c6 F G N Q (xs (i5 + 1)) o ⟨ho, hro⟩ w ((sX7_cancel f g (xs (i5 + 1))).1 0) hzz)) msw_cancel wm_L_116 rfl rfl ⟨(Nat.le_of_ble_eq_true rfl), (Nat.le_of_ble_eq_true rfl)⟩ (Nat.le_of_ble_eq_true rfl) ⟨by show cells + (8) ≤ 601024; omega, by show slots + (300) ≤ 7293034; omega⟩ dL_law_592 ?_
  refine j_ex (fun w9 => j_and (fun hw9 => ?_))
  refine j_istore C0 dL_law_595 (Nat.le_of_ble_eq_true rfl) rfl ?_
  refine j_aload_n C0 dL_law_597 rfl ?_
  refine j_word C0 hX hbl hbA (k := 1) rfl (by omega) hLs rfl rfl dL_law_598 dL_law_599 dL_law_601 dL_law_602 dL_law_603 ?_
  refine j_callVv C0 (As := [.int (xs (i5 + 1))]) (rest := []) (lw_kr (w := w9) (tE := tE) (c6 := c6) (D := D) (Y := Y) (E := EL (fun q => s.heap.size ≤ q) tE mi) ho hro (fun A' => k_X7_cancel hsl (A := A') (E := fun _ => True) c7 f g (xs (i5 + 1)) (zI_RI hz))) mv_X7_cancel wm_L_118 (lw_rec7 C0) rfl rfl ⟨(Nat.le_of_ble_eq_true rfl), (Nat.le_of_ble_eq_true rfl)⟩ (Nat.le_of_ble_eq_true rfl) ⟨by show cells + (8) + 0 ≤ 601024; omega, by show slots + (300) + 0 ≤ 7293034; omega⟩ dL_law_604 ?_
  refine j_istore C0 dL_law_607 (Nat.le_of_ble_eq_true rfl) rfl ?_
  refine j_aload_n C0 dL_law_609 rfl ?_
  refine j_callVv C0 (As := []) (rest := []) (lw_kr (w := w9) (tE := tE) (c6 := c6) (D := D) (Y := Y) (E := EL (fun q => s.heap.size ≤ q) tE mi) ho hro (fun A' => k_X7_thrown hsl (A := A') (E := fun _ => True) c7 (sX7_cancel f g (xs (i5 + 1))).1 (sX7_cancel f g (xs (i5 + 1))).2)) mv_X7_thrown wm_L_94 (lw_rec7 C0) rfl rfl ⟨(Nat.le_of_ble_eq_true rfl), (Nat.le_of_ble_eq_true rfl)⟩ (Nat.le_of_ble_eq_true rfl) ⟨by show cells + (8) + 0 + 0 ≤ 601024; omega, by show slots + (300) + 0 + 0 ≤ 7293034; omega⟩ dL_law_610 ?_
  refine j_iload C0 dL_law_613 rfl ?_
  refine j_icmp_eq C0 620 dL_law_615 (by decide) (fun _ => ?_) (fun z => absurd rfl z)
  refine j_iload C0 dL_law_620 rfl ?_
  have fin : J p l e room_1 s m args below meth cd (fun q => s.heap.size ≤ q) 7 Q9 (LW D Y s.heap.size tE o c6 c7 F (hu G 12 (sX6_cancel F G N Q (xs (i5 + 1))).2.2) (hu N 2 (sX6_cancel F G N Q (xs (i5 + 1))).1) (hu Q 0 (sX6_cancel F G N Q (xs (i5 + 1))).2.1) (sX7_cancel f g (xs (i5 + 1))).1 (sX7_cancel f g (xs (i5 + 1))).2 w9) (cells + (8) + 0 + 0) (slots + (300) + 0 + 0) 637 ([(0, .ref b), (1, .ref (c6 0)), (2, .ref (c7 0)), (3, .ref o), (4, .int (nI i5))] ++ [(5, .int ((sX7_cancel f g (xs (i5 + 1))).1 0)), (6, .int (vX7_cancel f g (xs (i5 + 1))))]) [] := by
    refine j_goto C0 1521 dL_law_637 (by decide) ?_
    refine j_locals (L' := [(0, .ref b), (1, .ref (c6 0)), (2, .ref (c7 0)), (3, .ref o), (4, .int (nI i5))]) (fun q hq => List.mem_append_left _ hq) (lok_of rfl rfl) ?_
    exact j_widen (k := cells + (8 + 2 * (N 1 - N 1))) (n := slots + (300 + 165 * (N 1 - N 1))) (Nat.add_le_add_left (Nat.le_add_right 8 _) cells) (Nat.add_le_add_left (Nat.le_add_right 300 _) slots) (kk _ _ _ _ _ _ _ zi (Nat.le_refl _))
  refine j_if_ne C0 637 dL_law_622 (by decide) (fun _ => fin) (fun z0 => ?_)
  refine j_aload_n C0 dL_law_625 rfl ?_
  refine j_iconst C0 dL_law_626 (v := 0) rfl ?_
  refine j_laldO C0 (w := w9) dL_law_627 (fun H h => h.2.2) ?_
  refine j_iload C0 dL_law_628 rfl ?_
  refine j_i2l C0 dL_law_630 (v := (vX7_cancel f g (xs (i5 + 1))).toInt64) rfl ?_
  refine j_lcmp C0 dL_law_631 ?_
  exact j_if_eq C0 637 dL_law_632 (by decide) (fun _ => fin) (fun z => absurd (lg_cmp_0.mpr ((hw9 z0).trans (by rw [hv z0]))) z)
theorem lc_hasWater (hsl : l.stackTraces = false) (C0 : CX p l s m args meth cd RL cL_law 7 ret9 D Y (fun q => s.heap.size ≤ q) (EL (fun q => s.heap.size ≤ q) tE mi)) (hX : va_X b Ls xs s s.heap) (hbl : b < s.heap.size) (hLs : Ls ≤ 2560) (hi : i5 + 4 < Ls) (ho : s.heap.size ≤ o) (hro : o ∉ rL c7) (hc : cells + 300 ≤ 601024) (hs : slots + 17000 ≤ 7293034) (hz : zI F G N Q f g)
    (kk : ∀ (F' : Nat → Int32) (G' : Nat → Nat → Int32) (N' : Nat → Nat) (Q' : Nat → Nat → Nat) (f' : Nat → Int32) (g' : Nat → Nat → Int32) (w' : Int64), zI F' G' N' Q' f' g' → N 1 ≤ N' 1 → J p l e room_1 s m args below meth cd (fun q => s.heap.size ≤ q) 7 Q9 (LW D Y s.heap.size tE o c6 c7 F' G' N' Q' f' g' w') (cells + (8 + 2 * (N' 1 - N 1))) (slots + (300 + 165 * (N' 1 - N 1))) 1521 [(0, .ref b), (1, .ref (c6 0)), (2, .ref (c7 0)), (3, .ref o), (4, .int (nI i5))] []) :
    J p l e room_1 s m args below meth cd (fun q => s.heap.size ≤ q) 7 Q9 (LW D Y s.heap.size tE o c6 c7 F G N Q f g w) cells slots 640 [(0, .ref b), (1, .ref (c6 0)), (2, .ref (c7 0)), (3, .ref o), (4, .int (nI i5))] [] := by
  have hbA : ¬ (fun q => s.heap.size ≤ q) b := Nat.not_le.mpr hbl
  obtain ⟨zx, zi⟩ := zf_hasWater (xs (i5 + 1)) (xs (i5 + 2)) hz
  have hzz : (eX6_hasWater F G N Q (xs (i5 + 1)) (xs (i5 + 2)) = 0 ∧ (sX7_hasWater f g (xs (i5 + 1)) (xs (i5 + 2))).1 0 = 0) ∨ (eX6_hasWater F G N Q (xs (i5 + 1)) (xs (i5 + 2)), (sX7_hasWater f g (xs (i5 + 1)) (xs (i5 + 2))).1 0) ∈ ([(1, 1), (2, 2)] : List (Nat × Int32)) := zx.imp (fun h => ⟨h.1, h.2.1⟩) id
  have hv : (sX7_hasWater f g (xs (i5 + 1)) (xs (i5 + 2))).1 0 = 0 → vX6_hasWater F G N Q (xs (i5 + 1)) (xs (i5 + 2)) = vX7_hasWater f g (xs (i5 + 1)) (xs (i5 + 2)) := by
    intro h0
    rcases zx with h | h
    · exact h.2.2
    · rw [h0] at h
      simp at h
  refine j_aload_n C0 dL_law_640 rfl ?_
  refine j_word C0 hX hbl hbA (k := 1) rfl (by omega) hLs rfl rfl dL_law_641 dL_law_642 dL_law_644 dL_law_645 dL_law_646 ?_
  refine j_word C0 hX hbl hbA (k := 2) rfl (by omega) hLs rfl rfl dL_law_647 dL_law_648 dL_law_650 dL_law_651 dL_law_652 ?_
  refine j_aload_n C0 dL_law_653 rfl ?_
  refine j_callSW C0 (As := [.ref (c6 0), .int (xs (i5 + 1)), .int (xs (i5 + 2)), .ref o]) (rest := []) (lw_kw (P := fun w' => (sX7_hasWater f g (xs (i5 + 1)) (xs (i5 + 2))).1 0 = 0 → w' = (if vX6_hasWater F G N Q (xs (i5 + 1)) (xs (i5 + 2)) = 0 then 0 else 1)) (f := f) (g := g) (kw_hasWater hsl (A := (fun q => s.heap.size ≤ q ∧ q ∉ rL c7)) (E := EL (fun q => s.heap.size ≤ q ∧ q ∉ rL c7) tE mi) (fun U h => h) c6 F G N Q (xs (i5 + 1)) (xs (i5 + 2)) (zI_hb hz) o ⟨ho, hro⟩ w ((sX7_hasWater f g (xs (i5 + 1)) (xs (i5 + 2))).1 0) hzz)) msw_hasWater wm_L_119 rfl rfl ⟨(Nat.le_of_ble_eq_true rfl), (Nat.le_of_ble_eq_true rfl)⟩ (Nat.le_of_ble_eq_true rfl) ⟨by show cells + (8) ≤ 601024; omega, by show slots + (300) ≤ 7293034; omega⟩ dL_law_654 ?_
  refine j_ex (fun w9 => j_and (fun hw9 => ?_))
  refine j_istore C0 dL_law_657 (Nat.le_of_ble_eq_true rfl) rfl ?_
  refine j_aload_n C0 dL_law_659 rfl ?_
  refine j_word C0 hX hbl hbA (k := 1) rfl (by omega) hLs rfl rfl dL_law_660 dL_law_661 dL_law_663 dL_law_664 dL_law_665 ?_
  refine j_word C0 hX hbl hbA (k := 2) rfl (by omega) hLs rfl rfl dL_law_666 dL_law_667 dL_law_669 dL_law_670 dL_law_671 ?_
  refine j_callVv C0 (As := [.int (xs (i5 + 1)), .int (xs (i5 + 2))]) (rest := []) (lw_kr (w := w9) (tE := tE) (c6 := c6) (D := D) (Y := Y) (E := EL (fun q => s.heap.size ≤ q) tE mi) ho hro (fun A' => k_X7_hasWater hsl (A := A') (E := fun _ => True) c7 f g (xs (i5 + 1)) (xs (i5 + 2)) (zI_RI hz))) mv_X7_hasWater wm_L_121 (lw_rec7 C0) rfl rfl ⟨(Nat.le_of_ble_eq_true rfl), (Nat.le_of_ble_eq_true rfl)⟩ (Nat.le_of_ble_eq_true rfl) ⟨by show cells + (8) + 0 ≤ 601024; omega, by show slots + (300) + 0 ≤ 7293034; omega⟩ dL_law_672 ?_
  refine j_istore C0 dL_law_675 (Nat.le_of_ble_eq_true rfl) rfl ?_
  refine j_aload_n C0 dL_law_677 rfl ?_
  refine j_callVv C0 (As := []) (rest := []) (lw_kr (w := w9) (tE := tE) (c6 := c6) (D := D) (Y := Y) (E := EL (fun q => s.heap.size ≤ q) tE mi) ho hro (fun A' => k_X7_thrown hsl (A := A') (E := fun _ => True) c7 (sX7_hasWater f g (xs (i5 + 1)) (xs (i5 + 2))).1 (sX7_hasWater f g (xs (i5 + 1)) (xs (i5 + 2))).2)) mv_X7_thrown wm_L_94 (lw_rec7 C0) rfl rfl ⟨(Nat.le_of_ble_eq_true rfl), (Nat.le_of_ble_eq_true rfl)⟩ (Nat.le_of_ble_eq_true rfl) ⟨by show cells + (8) + 0 + 0 ≤ 601024; omega, by show slots + (300) + 0 + 0 ≤ 7293034; omega⟩ dL_law_678 ?_
  refine j_iload C0 dL_law_681 rfl ?_
  refine j_icmp_eq C0 688 dL_law_683 (by decide) (fun _ => ?_) (fun z => absurd rfl z)
  refine j_iload C0 dL_law_688 rfl ?_
  have fin : J p l e room_1 s m args below meth cd (fun q => s.heap.size ≤ q) 7 Q9 (LW D Y s.heap.size tE o c6 c7 F G N Q (sX7_hasWater f g (xs (i5 + 1)) (xs (i5 + 2))).1 (sX7_hasWater f g (xs (i5 + 1)) (xs (i5 + 2))).2 w9) (cells + (8) + 0 + 0) (slots + (300) + 0 + 0) 712 ([(0, .ref b), (1, .ref (c6 0)), (2, .ref (c7 0)), (3, .ref o), (4, .int (nI i5))] ++ [(5, .int ((sX7_hasWater f g (xs (i5 + 1)) (xs (i5 + 2))).1 0)), (6, .int (vX7_hasWater f g (xs (i5 + 1)) (xs (i5 + 2))))]) [] := by
    refine j_goto C0 1521 dL_law_712 (by decide) ?_
    refine j_locals (L' := [(0, .ref b), (1, .ref (c6 0)), (2, .ref (c7 0)), (3, .ref o), (4, .int (nI i5))]) (fun q hq => List.mem_append_left _ hq) (lok_of rfl rfl) ?_
    exact j_widen (k := cells + (8 + 2 * (N 1 - N 1))) (n := slots + (300 + 165 * (N 1 - N 1))) (Nat.add_le_add_left (Nat.le_add_right 8 _) cells) (Nat.add_le_add_left (Nat.le_add_right 300 _) slots) (kk _ _ _ _ _ _ _ zi (Nat.le_refl _))
  refine j_if_ne C0 712 dL_law_690 (by decide) (fun _ => fin) (fun z0 => ?_)
  refine j_aload_n C0 dL_law_693 rfl ?_
  refine j_iconst C0 dL_law_694 (v := 0) rfl ?_
  refine j_laldO C0 (w := w9) dL_law_695 (fun H h => h.2.2) ?_
  refine j_iload C0 dL_law_696 rfl ?_
  refine j_if_eq C0 705 dL_law_698 (by decide) (fun y => ?_) (fun y => ?_)
  · refine j_lconst C0 dL_law_705 (v := 0) rfl ?_
    refine j_lcmp C0 dL_law_706 ?_
    exact j_if_eq C0 712 dL_law_707 (by decide) (fun _ => fin) (fun z => absurd (lg_cmp_0.mpr ((hw9 z0).trans (by rw [hv z0]; exact if_pos y))) z)
  · refine j_lconst C0 dL_law_701 (v := 1) rfl ?_
    refine j_goto C0 706 dL_law_702 (by decide) ?_
    refine j_lcmp C0 dL_law_706 ?_
    exact j_if_eq C0 712 dL_law_707 (by decide) (fun _ => fin) (fun z => absurd (lg_cmp_0.mpr ((hw9 z0).trans (by rw [hv z0]; exact if_neg y))) z)
theorem lc_state (hsl : l.stackTraces = false) (C0 : CX p l s m args meth cd RL cL_law 7 ret9 D Y (fun q => s.heap.size ≤ q) (EL (fun q => s.heap.size ≤ q) tE mi)) (hX : va_X b Ls xs s s.heap) (hbl : b < s.heap.size) (hLs : Ls ≤ 2560) (hi : i5 + 4 < Ls) (ho : s.heap.size ≤ o) (hro : o ∉ rL c7) (hc : cells + 300 ≤ 601024) (hs : slots + 17000 ≤ 7293034) (hz : zI F G N Q f g)
    (kk : ∀ (F' : Nat → Int32) (G' : Nat → Nat → Int32) (N' : Nat → Nat) (Q' : Nat → Nat → Nat) (f' : Nat → Int32) (g' : Nat → Nat → Int32) (w' : Int64), zI F' G' N' Q' f' g' → N 1 ≤ N' 1 → J p l e room_1 s m args below meth cd (fun q => s.heap.size ≤ q) 7 Q9 (LW D Y s.heap.size tE o c6 c7 F' G' N' Q' f' g' w') (cells + (8 + 2 * (N' 1 - N 1))) (slots + (300 + 165 * (N' 1 - N 1))) 1521 [(0, .ref b), (1, .ref (c6 0)), (2, .ref (c7 0)), (3, .ref o), (4, .int (nI i5))] []) :
    J p l e room_1 s m args below meth cd (fun q => s.heap.size ≤ q) 7 Q9 (LW D Y s.heap.size tE o c6 c7 F G N Q f g w) cells slots 715 [(0, .ref b), (1, .ref (c6 0)), (2, .ref (c7 0)), (3, .ref o), (4, .int (nI i5))] [] := by
  have hbA : ¬ (fun q => s.heap.size ≤ q) b := Nat.not_le.mpr hbl
  obtain ⟨zx, zi⟩ := zf_state (xs (i5 + 1)) hz
  have hzz : (eX6_state F G N Q (xs (i5 + 1)) = 0 ∧ (sX7_state f g (xs (i5 + 1))).1 0 = 0) ∨ (eX6_state F G N Q (xs (i5 + 1)), (sX7_state f g (xs (i5 + 1))).1 0) ∈ ([(1, 1)] : List (Nat × Int32)) := zx.imp (fun h => ⟨h.1, h.2.1⟩) id
  have hv : (sX7_state f g (xs (i5 + 1))).1 0 = 0 → vX6_state F G N Q (xs (i5 + 1)) = vX7_state f g (xs (i5 + 1)) := by
    intro h0
    rcases zx with h | h
    · exact h.2.2
    · rw [h0] at h
      simp at h
  refine j_aload_n C0 dL_law_715 rfl ?_
  refine j_word C0 hX hbl hbA (k := 1) rfl (by omega) hLs rfl rfl dL_law_716 dL_law_717 dL_law_719 dL_law_720 dL_law_721 ?_
  refine j_aload_n C0 dL_law_722 rfl ?_
  refine j_callSW C0 (As := [.ref (c6 0), .int (xs (i5 + 1)), .ref o]) (rest := []) (lw_kw (P := fun w' => (sX7_state f g (xs (i5 + 1))).1 0 = 0 → w' = (vX6_state F G N Q (xs (i5 + 1))).toInt64) (f := f) (g := g) (kw_state hsl (A := (fun q => s.heap.size ≤ q ∧ q ∉ rL c7)) (E := EL (fun q => s.heap.size ≤ q ∧ q ∉ rL c7) tE mi) (fun U h => h) c6 F G N Q (xs (i5 + 1)) o ⟨ho, hro⟩ w ((sX7_state f g (xs (i5 + 1))).1 0) hzz)) msw_state wm_L_122 rfl rfl ⟨(Nat.le_of_ble_eq_true rfl), (Nat.le_of_ble_eq_true rfl)⟩ (Nat.le_of_ble_eq_true rfl) ⟨by show cells + (8) ≤ 601024; omega, by show slots + (300) ≤ 7293034; omega⟩ dL_law_723 ?_
  refine j_ex (fun w9 => j_and (fun hw9 => ?_))
  refine j_istore C0 dL_law_726 (Nat.le_of_ble_eq_true rfl) rfl ?_
  refine j_aload_n C0 dL_law_728 rfl ?_
  refine j_word C0 hX hbl hbA (k := 1) rfl (by omega) hLs rfl rfl dL_law_729 dL_law_730 dL_law_732 dL_law_733 dL_law_734 ?_
  refine j_callVv C0 (As := [.int (xs (i5 + 1))]) (rest := []) (lw_kr (w := w9) (tE := tE) (c6 := c6) (D := D) (Y := Y) (E := EL (fun q => s.heap.size ≤ q) tE mi) ho hro (fun A' => k_X7_state hsl (A := A') (E := fun _ => True) c7 f g (xs (i5 + 1)) (zI_RI hz))) mv_X7_state wm_L_124 (lw_rec7 C0) rfl rfl ⟨(Nat.le_of_ble_eq_true rfl), (Nat.le_of_ble_eq_true rfl)⟩ (Nat.le_of_ble_eq_true rfl) ⟨by show cells + (8) + 0 ≤ 601024; omega, by show slots + (300) + 0 ≤ 7293034; omega⟩ dL_law_735 ?_
  refine j_istore C0 dL_law_738 (Nat.le_of_ble_eq_true rfl) rfl ?_
  refine j_aload_n C0 dL_law_740 rfl ?_
  refine j_callVv C0 (As := []) (rest := []) (lw_kr (w := w9) (tE := tE) (c6 := c6) (D := D) (Y := Y) (E := EL (fun q => s.heap.size ≤ q) tE mi) ho hro (fun A' => k_X7_thrown hsl (A := A') (E := fun _ => True) c7 (sX7_state f g (xs (i5 + 1))).1 (sX7_state f g (xs (i5 + 1))).2)) mv_X7_thrown wm_L_94 (lw_rec7 C0) rfl rfl ⟨(Nat.le_of_ble_eq_true rfl), (Nat.le_of_ble_eq_true rfl)⟩ (Nat.le_of_ble_eq_true rfl) ⟨by show cells + (8) + 0 + 0 ≤ 601024; omega, by show slots + (300) + 0 + 0 ≤ 7293034; omega⟩ dL_law_741 ?_
  refine j_iload C0 dL_law_744 rfl ?_
  refine j_icmp_eq C0 751 dL_law_746 (by decide) (fun _ => ?_) (fun z => absurd rfl z)
  refine j_iload C0 dL_law_751 rfl ?_
  have fin : J p l e room_1 s m args below meth cd (fun q => s.heap.size ≤ q) 7 Q9 (LW D Y s.heap.size tE o c6 c7 F G N Q (sX7_state f g (xs (i5 + 1))).1 (sX7_state f g (xs (i5 + 1))).2 w9) (cells + (8) + 0 + 0) (slots + (300) + 0 + 0) 768 ([(0, .ref b), (1, .ref (c6 0)), (2, .ref (c7 0)), (3, .ref o), (4, .int (nI i5))] ++ [(5, .int ((sX7_state f g (xs (i5 + 1))).1 0)), (6, .int (vX7_state f g (xs (i5 + 1))))]) [] := by
    refine j_goto C0 1521 dL_law_768 (by decide) ?_
    refine j_locals (L' := [(0, .ref b), (1, .ref (c6 0)), (2, .ref (c7 0)), (3, .ref o), (4, .int (nI i5))]) (fun q hq => List.mem_append_left _ hq) (lok_of rfl rfl) ?_
    exact j_widen (k := cells + (8 + 2 * (N 1 - N 1))) (n := slots + (300 + 165 * (N 1 - N 1))) (Nat.add_le_add_left (Nat.le_add_right 8 _) cells) (Nat.add_le_add_left (Nat.le_add_right 300 _) slots) (kk _ _ _ _ _ _ _ zi (Nat.le_refl _))
  refine j_if_ne C0 768 dL_law_753 (by decide) (fun _ => fin) (fun z0 => ?_)
  refine j_aload_n C0 dL_law_756 rfl ?_
  refine j_iconst C0 dL_law_757 (v := 0) rfl ?_
  refine j_laldO C0 (w := w9) dL_law_758 (fun H h => h.2.2) ?_
  refine j_iload C0 dL_law_759 rfl ?_
  refine j_i2l C0 dL_law_761 (v := (vX7_state f g (xs (i5 + 1))).toInt64) rfl ?_
  refine j_lcmp C0 dL_law_762 ?_
  exact j_if_eq C0 768 dL_law_763 (by decide) (fun _ => fin) (fun z => absurd (lg_cmp_0.mpr ((hw9 z0).trans (by rw [hv z0]))) z)
theorem lc_queue (hsl : l.stackTraces = false) (C0 : CX p l s m args meth cd RL cL_law 7 ret9 D Y (fun q => s.heap.size ≤ q) (EL (fun q => s.heap.size ≤ q) tE mi)) (hX : va_X b Ls xs s s.heap) (hbl : b < s.heap.size) (hLs : Ls ≤ 2560) (hi : i5 + 4 < Ls) (ho : s.heap.size ≤ o) (hro : o ∉ rL c7) (hc : cells + 300 ≤ 601024) (hs : slots + 17000 ≤ 7293034) (hz : zI F G N Q f g)
    (kk : ∀ (F' : Nat → Int32) (G' : Nat → Nat → Int32) (N' : Nat → Nat) (Q' : Nat → Nat → Nat) (f' : Nat → Int32) (g' : Nat → Nat → Int32) (w' : Int64), zI F' G' N' Q' f' g' → N 1 ≤ N' 1 → J p l e room_1 s m args below meth cd (fun q => s.heap.size ≤ q) 7 Q9 (LW D Y s.heap.size tE o c6 c7 F' G' N' Q' f' g' w') (cells + (8 + 2 * (N' 1 - N 1))) (slots + (300 + 165 * (N' 1 - N 1))) 1521 [(0, .ref b), (1, .ref (c6 0)), (2, .ref (c7 0)), (3, .ref o), (4, .int (nI i5))] []) :
    J p l e room_1 s m args below meth cd (fun q => s.heap.size ≤ q) 7 Q9 (LW D Y s.heap.size tE o c6 c7 F G N Q f g w) cells slots 771 [(0, .ref b), (1, .ref (c6 0)), (2, .ref (c7 0)), (3, .ref o), (4, .int (nI i5))] [] := by
  have hbA : ¬ (fun q => s.heap.size ≤ q) b := Nat.not_le.mpr hbl
  obtain ⟨zx, zi⟩ := zf_queue (xs (i5 + 1)) hz
  have hzz : (eX6_queue F G N Q (xs (i5 + 1)) = 0 ∧ (sX7_queue f g (xs (i5 + 1))).1 0 = 0) ∨ (eX6_queue F G N Q (xs (i5 + 1)), (sX7_queue f g (xs (i5 + 1))).1 0) ∈ ([(1, 1)] : List (Nat × Int32)) := zx.imp (fun h => ⟨h.1, h.2.1⟩) id
  have hv : (sX7_queue f g (xs (i5 + 1))).1 0 = 0 → vX6_queue F G N Q (xs (i5 + 1)) = vX7_queue f g (xs (i5 + 1)) := by
    intro h0
    rcases zx with h | h
    · exact h.2.2
    · rw [h0] at h
      simp at h
  refine j_aload_n C0 dL_law_771 rfl ?_
  refine j_word C0 hX hbl hbA (k := 1) rfl (by omega) hLs rfl rfl dL_law_772 dL_law_773 dL_law_775 dL_law_776 dL_law_777 ?_
  refine j_aload_n C0 dL_law_778 rfl ?_
  refine j_callSW C0 (As := [.ref (c6 0), .int (xs (i5 + 1)), .ref o]) (rest := []) (lw_kw (P := fun w' => (sX7_queue f g (xs (i5 + 1))).1 0 = 0 → w' = (vX6_queue F G N Q (xs (i5 + 1))).toInt64) (f := f) (g := g) (kw_queue hsl (A := (fun q => s.heap.size ≤ q ∧ q ∉ rL c7)) (E := EL (fun q => s.heap.size ≤ q ∧ q ∉ rL c7) tE mi) (fun U h => h) c6 F G N Q (xs (i5 + 1)) o ⟨ho, hro⟩ w ((sX7_queue f g (xs (i5 + 1))).1 0) hzz)) msw_queue wm_L_125 rfl rfl ⟨(Nat.le_of_ble_eq_true rfl), (Nat.le_of_ble_eq_true rfl)⟩ (Nat.le_of_ble_eq_true rfl) ⟨by show cells + (8) ≤ 601024; omega, by show slots + (300) ≤ 7293034; omega⟩ dL_law_779 ?_
  refine j_ex (fun w9 => j_and (fun hw9 => ?_))
  refine j_istore C0 dL_law_782 (Nat.le_of_ble_eq_true rfl) rfl ?_
  refine j_aload_n C0 dL_law_784 rfl ?_
  refine j_word C0 hX hbl hbA (k := 1) rfl (by omega) hLs rfl rfl dL_law_785 dL_law_786 dL_law_788 dL_law_789 dL_law_790 ?_
  refine j_callVv C0 (As := [.int (xs (i5 + 1))]) (rest := []) (lw_kr (w := w9) (tE := tE) (c6 := c6) (D := D) (Y := Y) (E := EL (fun q => s.heap.size ≤ q) tE mi) ho hro (fun A' => k_X7_queue hsl (A := A') (E := fun _ => True) c7 f g (xs (i5 + 1)) (zI_RI hz))) mv_X7_queue wm_L_127 (lw_rec7 C0) rfl rfl ⟨(Nat.le_of_ble_eq_true rfl), (Nat.le_of_ble_eq_true rfl)⟩ (Nat.le_of_ble_eq_true rfl) ⟨by show cells + (8) + 0 ≤ 601024; omega, by show slots + (300) + 0 ≤ 7293034; omega⟩ dL_law_791 ?_
  refine j_istore C0 dL_law_794 (Nat.le_of_ble_eq_true rfl) rfl ?_
  refine j_aload_n C0 dL_law_796 rfl ?_
  refine j_callVv C0 (As := []) (rest := []) (lw_kr (w := w9) (tE := tE) (c6 := c6) (D := D) (Y := Y) (E := EL (fun q => s.heap.size ≤ q) tE mi) ho hro (fun A' => k_X7_thrown hsl (A := A') (E := fun _ => True) c7 (sX7_queue f g (xs (i5 + 1))).1 (sX7_queue f g (xs (i5 + 1))).2)) mv_X7_thrown wm_L_94 (lw_rec7 C0) rfl rfl ⟨(Nat.le_of_ble_eq_true rfl), (Nat.le_of_ble_eq_true rfl)⟩ (Nat.le_of_ble_eq_true rfl) ⟨by show cells + (8) + 0 + 0 ≤ 601024; omega, by show slots + (300) + 0 + 0 ≤ 7293034; omega⟩ dL_law_797 ?_
  refine j_iload C0 dL_law_800 rfl ?_
  refine j_icmp_eq C0 807 dL_law_802 (by decide) (fun _ => ?_) (fun z => absurd rfl z)
  refine j_iload C0 dL_law_807 rfl ?_
  have fin : J p l e room_1 s m args below meth cd (fun q => s.heap.size ≤ q) 7 Q9 (LW D Y s.heap.size tE o c6 c7 F G N Q (sX7_queue f g (xs (i5 + 1))).1 (sX7_queue f g (xs (i5 + 1))).2 w9) (cells + (8) + 0 + 0) (slots + (300) + 0 + 0) 824 ([(0, .ref b), (1, .ref (c6 0)), (2, .ref (c7 0)), (3, .ref o), (4, .int (nI i5))] ++ [(5, .int ((sX7_queue f g (xs (i5 + 1))).1 0)), (6, .int (vX7_queue f g (xs (i5 + 1))))]) [] := by
    refine j_goto C0 1521 dL_law_824 (by decide) ?_
    refine j_locals (L' := [(0, .ref b), (1, .ref (c6 0)), (2, .ref (c7 0)), (3, .ref o), (4, .int (nI i5))]) (fun q hq => List.mem_append_left _ hq) (lok_of rfl rfl) ?_
    exact j_widen (k := cells + (8 + 2 * (N 1 - N 1))) (n := slots + (300 + 165 * (N 1 - N 1))) (Nat.add_le_add_left (Nat.le_add_right 8 _) cells) (Nat.add_le_add_left (Nat.le_add_right 300 _) slots) (kk _ _ _ _ _ _ _ zi (Nat.le_refl _))
  refine j_if_ne C0 824 dL_law_809 (by decide) (fun _ => fin) (fun z0 => ?_)
  refine j_aload_n C0 dL_law_812 rfl ?_
  refine j_iconst C0 dL_law_813 (v := 0) rfl ?_
  refine j_laldO C0 (w := w9) dL_law_814 (fun H h => h.2.2) ?_
  refine j_iload C0 dL_law_815 rfl ?_
  refine j_i2l C0 dL_law_817 (v := (vX7_queue f g (xs (i5 + 1))).toInt64) rfl ?_
  refine j_lcmp C0 dL_law_818 ?_
  exact j_if_eq C0 824 dL_law_819 (by decide) (fun _ => fin) (fun z => absurd (lg_cmp_0.mpr ((hw9 z0).trans (by rw [hv z0]))) z)
theorem lc_pass (hsl : l.stackTraces = false) (C0 : CX p l s m args meth cd RL cL_law 7 ret9 D Y (fun q => s.heap.size ≤ q) (EL (fun q => s.heap.size ≤ q) tE mi)) (hX : va_X b Ls xs s s.heap) (hbl : b < s.heap.size) (hLs : Ls ≤ 2560) (hi : i5 + 4 < Ls) (ho : s.heap.size ≤ o) (hro : o ∉ rL c7) (hc : cells + 300 ≤ 601024) (hs : slots + 17000 ≤ 7293034) (hz : zI F G N Q f g)
    (kk : ∀ (F' : Nat → Int32) (G' : Nat → Nat → Int32) (N' : Nat → Nat) (Q' : Nat → Nat → Nat) (f' : Nat → Int32) (g' : Nat → Nat → Int32) (w' : Int64), zI F' G' N' Q' f' g' → N 1 ≤ N' 1 → J p l e room_1 s m args below meth cd (fun q => s.heap.size ≤ q) 7 Q9 (LW D Y s.heap.size tE o c6 c7 F' G' N' Q' f' g' w') (cells + (8 + 2 * (N' 1 - N 1))) (slots + (300 + 165 * (N' 1 - N 1))) 1521 [(0, .ref b), (1, .ref (c6 0)), (2, .ref (c7 0)), (3, .ref o), (4, .int (nI i5))] []) :
    J p l e room_1 s m args below meth cd (fun q => s.heap.size ≤ q) 7 Q9 (LW D Y s.heap.size tE o c6 c7 F G N Q f g w) cells slots 827 [(0, .ref b), (1, .ref (c6 0)), (2, .ref (c7 0)), (3, .ref o), (4, .int (nI i5))] [] := by
  have hbA : ¬ (fun q => s.heap.size ≤ q) b := Nat.not_le.mpr hbl
  obtain ⟨zx, zi⟩ := zf_pass (xs (i5 + 1)) hz
  have hzz : (eX6_pass F G N Q (xs (i5 + 1)) = 0 ∧ (sX7_pass f g (xs (i5 + 1))).1 0 = 0) ∨ (eX6_pass F G N Q (xs (i5 + 1)), (sX7_pass f g (xs (i5 + 1))).1 0) ∈ ([(2, 1), (3, 2)] : List (Nat × Int32)) := zx.imp (fun h => ⟨h.1, h.2.1⟩) id
  have hv : (sX7_pass f g (xs (i5 + 1))).1 0 = 0 → vX6_pass F G N Q (xs (i5 + 1)) = vX7_pass f g (xs (i5 + 1)) := by
    intro h0
    rcases zx with h | h
    · exact h.2.2
    · rw [h0] at h
      simp at h
  refine j_aload_n C0 dL_law_827 rfl ?_
  refine j_word C0 hX hbl hbA (k := 1) rfl (by omega) hLs rfl rfl dL_law_828 dL_law_829 dL_law_831 dL_law_832 dL_law_833 ?_
  refine j_aload_n C0 dL_law_834 rfl ?_
  have n100 : (sX6_pass F G N Q (xs (i5 + 1))).1 ≤ 100 := zI_n1 zi
  refine j_callSW C0 (As := [.ref (c6 0), .int (xs (i5 + 1)), .ref o]) (rest := []) (lw_kw (P := fun w' => (sX7_pass f g (xs (i5 + 1))).1 0 = 0 → w' = (vX6_pass F G N Q (xs (i5 + 1))).toInt64) (f := f) (g := g) (kw_pass hsl (A := (fun q => s.heap.size ≤ q ∧ q ∉ rL c7)) (E := EL (fun q => s.heap.size ≤ q ∧ q ∉ rL c7) tE mi) (fun U h => h) c6 F G N Q (xs (i5 + 1)) (zI_hb hz) (zI_hr hz) (zI_hnow hz) o ⟨ho, hro⟩ w ((sX7_pass f g (xs (i5 + 1))).1 0) hzz)) msw_pass wm_L_128 rfl rfl ⟨(Nat.le_of_ble_eq_true rfl), (Nat.le_of_ble_eq_true rfl)⟩ (Nat.le_of_ble_eq_true rfl) ⟨by show cells + ((8 + 2 * ((sX6_pass F G N Q (xs (i5 + 1))).1 - N 1))) ≤ 601024; omega, by show slots + ((300 + 165 * ((sX6_pass F G N Q (xs (i5 + 1))).1 - N 1))) ≤ 7293034; omega⟩ dL_law_835 ?_
  refine j_ex (fun w9 => j_and (fun hw9 => ?_))
  refine j_istore C0 dL_law_838 (Nat.le_of_ble_eq_true rfl) rfl ?_
  refine j_aload_n C0 dL_law_840 rfl ?_
  refine j_word C0 hX hbl hbA (k := 1) rfl (by omega) hLs rfl rfl dL_law_841 dL_law_842 dL_law_844 dL_law_845 dL_law_846 ?_
  refine j_callVv C0 (As := [.int (xs (i5 + 1))]) (rest := []) (lw_kr (w := w9) (tE := tE) (c6 := c6) (D := D) (Y := Y) (E := EL (fun q => s.heap.size ≤ q) tE mi) ho hro (fun A' => k_X7_pass hsl (A := A') (E := fun _ => True) c7 f g (xs (i5 + 1)) (zI_RI hz))) mv_X7_pass wm_L_130 (lw_rec7 C0) rfl rfl ⟨(Nat.le_of_ble_eq_true rfl), (Nat.le_of_ble_eq_true rfl)⟩ (Nat.le_of_ble_eq_true rfl) ⟨by show cells + ((8 + 2 * ((sX6_pass F G N Q (xs (i5 + 1))).1 - N 1))) + 0 ≤ 601024; omega, by show slots + ((300 + 165 * ((sX6_pass F G N Q (xs (i5 + 1))).1 - N 1))) + 0 ≤ 7293034; omega⟩ dL_law_847 ?_
  refine j_istore C0 dL_law_850 (Nat.le_of_ble_eq_true rfl) rfl ?_
  refine j_aload_n C0 dL_law_852 rfl ?_
  refine j_callVv C0 (As := []) (rest := []) (lw_kr (w := w9) (tE := tE) (c6 := c6) (D := D) (Y := Y) (E := EL (fun q => s.heap.size ≤ q) tE mi) ho hro (fun A' => k_X7_thrown hsl (A := A') (E := fun _ => True) c7 (sX7_pass f g (xs (i5 + 1))).1 (sX7_pass f g (xs (i5 + 1))).2)) mv_X7_thrown wm_L_94 (lw_rec7 C0) rfl rfl ⟨(Nat.le_of_ble_eq_true rfl), (Nat.le_of_ble_eq_true rfl)⟩ (Nat.le_of_ble_eq_true rfl) ⟨by show cells + ((8 + 2 * ((sX6_pass F G N Q (xs (i5 + 1))).1 - N 1))) + 0 + 0 ≤ 601024; omega, by show slots + ((300 + 165 * ((sX6_pass F G N Q (xs (i5 + 1))).1 - N 1))) + 0 + 0 ≤ 7293034; omega⟩ dL_law_853 ?_
  refine j_iload C0 dL_law_856 rfl ?_
  refine j_icmp_eq C0 863 dL_law_858 (by decide) (fun _ => ?_) (fun z => absurd rfl z)
  refine j_iload C0 dL_law_863 rfl ?_
  have fin : J p l e room_1 s m args below meth cd (fun q => s.heap.size ≤ q) 7 Q9 (LW D Y s.heap.size tE o c6 c7 (hu (hu (hu F 0 (sX6_pass F G N Q (xs (i5 + 1))).2.2.1) 1 (sX6_pass F G N Q (xs (i5 + 1))).2.2.2.1) 2 (sX6_pass F G N Q (xs (i5 + 1))).2.2.2.2.1) (hu (hu (hu (hu (hu (hu (hu (hu (hu (hu (hu (hu G 3 (sX6_pass F G N Q (xs (i5 + 1))).2.2.2.2.2.1) 4 (sX6_pass F G N Q (xs (i5 + 1))).2.2.2.2.2.2.1) 10 (sX6_pass F G N Q (xs (i5 + 1))).2.2.2.2.2.2.2.1) 11 (sX6_pass F G N Q (xs (i5 + 1))).2.2.2.2.2.2.2.2.1) 12 (sX6_pass F G N Q (xs (i5 + 1))).2.2.2.2.2.2.2.2.2.1) 13 (sX6_pass F G N Q (xs (i5 + 1))).2.2.2.2.2.2.2.2.2.2.1) 14 (sX6_pass F G N Q (xs (i5 + 1))).2.2.2.2.2.2.2.2.2.2.2.1) 15 (sX6_pass F G N Q (xs (i5 + 1))).2.2.2.2.2.2.2.2.2.2.2.2.1) 16 (sX6_pass F G N Q (xs (i5 + 1))).2.2.2.2.2.2.2.2.2.2.2.2.2.1) 17 (sX6_pass F G N Q (xs (i5 + 1))).2.2.2.2.2.2.2.2.2.2.2.2.2.2.1) 18 (sX6_pass F G N Q (xs (i5 + 1))).2.2.2.2.2.2.2.2.2.2.2.2.2.2.2.1) 19 (sX6_pass F G N Q (xs (i5 + 1))).2.2.2.2.2.2.2.2.2.2.2.2.2.2.2.2.1) (hu (hu N 1 (sX6_pass F G N Q (xs (i5 + 1))).1) 2 (sX6_pass F G N Q (xs (i5 + 1))).2.2.2.2.2.2.2.2.2.2.2.2.2.2.2.2.2.1) (hu (hu Q 1 (sX6_pass F G N Q (xs (i5 + 1))).2.1) 0 (sX6_pass F G N Q (xs (i5 + 1))).2.2.2.2.2.2.2.2.2.2.2.2.2.2.2.2.2.2) (sX7_pass f g (xs (i5 + 1))).1 (sX7_pass f g (xs (i5 + 1))).2 w9) (cells + ((8 + 2 * ((sX6_pass F G N Q (xs (i5 + 1))).1 - N 1))) + 0 + 0) (slots + ((300 + 165 * ((sX6_pass F G N Q (xs (i5 + 1))).1 - N 1))) + 0 + 0) 880 ([(0, .ref b), (1, .ref (c6 0)), (2, .ref (c7 0)), (3, .ref o), (4, .int (nI i5))] ++ [(5, .int ((sX7_pass f g (xs (i5 + 1))).1 0)), (6, .int (vX7_pass f g (xs (i5 + 1))))]) [] := by
    refine j_goto C0 1521 dL_law_880 (by decide) ?_
    refine j_locals (L' := [(0, .ref b), (1, .ref (c6 0)), (2, .ref (c7 0)), (3, .ref o), (4, .int (nI i5))]) (fun q hq => List.mem_append_left _ hq) (lok_of rfl rfl) ?_
    exact kk _ _ _ _ _ _ _ zi (pass_mono F G N Q _)
  refine j_if_ne C0 880 dL_law_865 (by decide) (fun _ => fin) (fun z0 => ?_)
  refine j_aload_n C0 dL_law_868 rfl ?_
  refine j_iconst C0 dL_law_869 (v := 0) rfl ?_
  refine j_laldO C0 (w := w9) dL_law_870 (fun H h => h.2.2) ?_
  refine j_iload C0 dL_law_871 rfl ?_
  refine j_i2l C0 dL_law_873 (v := (vX7_pass f g (xs (i5 + 1))).toInt64) rfl ?_
  refine j_lcmp C0 dL_law_874 ?_
  exact j_if_eq C0 880 dL_law_875 (by decide) (fun _ => fin) (fun z => absurd (lg_cmp_0.mpr ((hw9 z0).trans (by rw [hv z0]))) z)
theorem lc_swap (hsl : l.stackTraces = false) (C0 : CX p l s m args meth cd RL cL_law 7 ret9 D Y (fun q => s.heap.size ≤ q) (EL (fun q => s.heap.size ≤ q) tE mi)) (hX : va_X b Ls xs s s.heap) (hbl : b < s.heap.size) (hLs : Ls ≤ 2560) (hi : i5 + 4 < Ls) (ho : s.heap.size ≤ o) (hro : o ∉ rL c7) (hc : cells + 300 ≤ 601024) (hs : slots + 17000 ≤ 7293034) (hz : zI F G N Q f g)
    (kk : ∀ (F' : Nat → Int32) (G' : Nat → Nat → Int32) (N' : Nat → Nat) (Q' : Nat → Nat → Nat) (f' : Nat → Int32) (g' : Nat → Nat → Int32) (w' : Int64), zI F' G' N' Q' f' g' → N 1 ≤ N' 1 → J p l e room_1 s m args below meth cd (fun q => s.heap.size ≤ q) 7 Q9 (LW D Y s.heap.size tE o c6 c7 F' G' N' Q' f' g' w') (cells + (8 + 2 * (N' 1 - N 1))) (slots + (300 + 165 * (N' 1 - N 1))) 1521 [(0, .ref b), (1, .ref (c6 0)), (2, .ref (c7 0)), (3, .ref o), (4, .int (nI i5))] []) :
    J p l e room_1 s m args below meth cd (fun q => s.heap.size ≤ q) 7 Q9 (LW D Y s.heap.size tE o c6 c7 F G N Q f g w) cells slots 883 [(0, .ref b), (1, .ref (c6 0)), (2, .ref (c7 0)), (3, .ref o), (4, .int (nI i5))] [] := by
  have hbA : ¬ (fun q => s.heap.size ≤ q) b := Nat.not_le.mpr hbl
  obtain ⟨zx, zi⟩ := zf_swap (xs (i5 + 1)) (xs (i5 + 2)) hz
  have hzz : (eX6_swap F G N Q (xs (i5 + 1)) (xs (i5 + 2)) = 0 ∧ (sX7_swap f g (xs (i5 + 1)) (xs (i5 + 2))).1 0 = 0) ∨ (eX6_swap F G N Q (xs (i5 + 1)) (xs (i5 + 2)), (sX7_swap f g (xs (i5 + 1)) (xs (i5 + 2))).1 0) ∈ ([(1, 1), (2, 2)] : List (Nat × Int32)) := zx.imp (fun h => ⟨h.1, h.2.1⟩) id
  have hv : (sX7_swap f g (xs (i5 + 1)) (xs (i5 + 2))).1 0 = 0 → vX6_swap F G N Q (xs (i5 + 1)) (xs (i5 + 2)) = vX7_swap f g (xs (i5 + 1)) (xs (i5 + 2)) := by
    intro h0
    rcases zx with h | h
    · exact h.2.2
    · rw [h0] at h
      simp at h
  refine j_aload_n C0 dL_law_883 rfl ?_
  refine j_word C0 hX hbl hbA (k := 1) rfl (by omega) hLs rfl rfl dL_law_884 dL_law_885 dL_law_887 dL_law_888 dL_law_889 ?_
  refine j_word C0 hX hbl hbA (k := 2) rfl (by omega) hLs rfl rfl dL_law_890 dL_law_891 dL_law_893 dL_law_894 dL_law_895 ?_
  refine j_aload_n C0 dL_law_896 rfl ?_
  refine j_callSW C0 (As := [.ref (c6 0), .int (xs (i5 + 1)), .int (xs (i5 + 2)), .ref o]) (rest := []) (lw_kw (P := fun w' => (sX7_swap f g (xs (i5 + 1)) (xs (i5 + 2))).1 0 = 0 → w' = (vX6_swap F G N Q (xs (i5 + 1)) (xs (i5 + 2))).toInt64) (f := f) (g := g) (kw_swap hsl (A := (fun q => s.heap.size ≤ q ∧ q ∉ rL c7)) (E := EL (fun q => s.heap.size ≤ q ∧ q ∉ rL c7) tE mi) (fun U h => h) c6 F G N Q (xs (i5 + 1)) (xs (i5 + 2)) o ⟨ho, hro⟩ w ((sX7_swap f g (xs (i5 + 1)) (xs (i5 + 2))).1 0) hzz)) msw_swap wm_L_131 rfl rfl ⟨(Nat.le_of_ble_eq_true rfl), (Nat.le_of_ble_eq_true rfl)⟩ (Nat.le_of_ble_eq_true rfl) ⟨by show cells + (8) ≤ 601024; omega, by show slots + (300) ≤ 7293034; omega⟩ dL_law_897 ?_
  refine j_ex (fun w9 => j_and (fun hw9 => ?_))
  refine j_istore C0 dL_law_900 (Nat.le_of_ble_eq_true rfl) rfl ?_
  refine j_aload_n C0 dL_law_902 rfl ?_
  refine j_word C0 hX hbl hbA (k := 1) rfl (by omega) hLs rfl rfl dL_law_903 dL_law_904 dL_law_906 dL_law_907 dL_law_908 ?_
  refine j_word C0 hX hbl hbA (k := 2) rfl (by omega) hLs rfl rfl dL_law_909 dL_law_910 dL_law_912 dL_law_913 dL_law_914 ?_
  refine j_callVv C0 (As := [.int (xs (i5 + 1)), .int (xs (i5 + 2))]) (rest := []) (lw_kr (w := w9) (tE := tE) (c6 := c6) (D := D) (Y := Y) (E := EL (fun q => s.heap.size ≤ q) tE mi) ho hro (fun A' => k_X7_swap hsl (A := A') (E := fun _ => True) c7 f g (xs (i5 + 1)) (xs (i5 + 2)) (zI_RI hz) (zI_sw hz))) mv_X7_swap wm_L_133 (lw_rec7 C0) rfl rfl ⟨(Nat.le_of_ble_eq_true rfl), (Nat.le_of_ble_eq_true rfl)⟩ (Nat.le_of_ble_eq_true rfl) ⟨by show cells + (8) + 0 ≤ 601024; omega, by show slots + (300) + 0 ≤ 7293034; omega⟩ dL_law_915 ?_
  refine j_istore C0 dL_law_918 (Nat.le_of_ble_eq_true rfl) rfl ?_
  refine j_aload_n C0 dL_law_920 rfl ?_
  refine j_callVv C0 (As := []) (rest := []) (lw_kr (w := w9) (tE := tE) (c6 := c6) (D := D) (Y := Y) (E := EL (fun q => s.heap.size ≤ q) tE mi) ho hro (fun A' => k_X7_thrown hsl (A := A') (E := fun _ => True) c7 (sX7_swap f g (xs (i5 + 1)) (xs (i5 + 2))).1 (sX7_swap f g (xs (i5 + 1)) (xs (i5 + 2))).2)) mv_X7_thrown wm_L_94 (lw_rec7 C0) rfl rfl ⟨(Nat.le_of_ble_eq_true rfl), (Nat.le_of_ble_eq_true rfl)⟩ (Nat.le_of_ble_eq_true rfl) ⟨by show cells + (8) + 0 + 0 ≤ 601024; omega, by show slots + (300) + 0 + 0 ≤ 7293034; omega⟩ dL_law_921 ?_
  refine j_iload C0 dL_law_924 rfl ?_
  refine j_icmp_eq C0 931 dL_law_926 (by decide) (fun _ => ?_) (fun z => absurd rfl z)
  refine j_iload C0 dL_law_931 rfl ?_
  have fin : J p l e room_1 s m args below meth cd (fun q => s.heap.size ≤ q) 7 Q9 (LW D Y s.heap.size tE o c6 c7 F (hu G 3 (sX6_swap F G N Q (xs (i5 + 1)) (xs (i5 + 2)))) N Q (sX7_swap f g (xs (i5 + 1)) (xs (i5 + 2))).1 (sX7_swap f g (xs (i5 + 1)) (xs (i5 + 2))).2 w9) (cells + (8) + 0 + 0) (slots + (300) + 0 + 0) 948 ([(0, .ref b), (1, .ref (c6 0)), (2, .ref (c7 0)), (3, .ref o), (4, .int (nI i5))] ++ [(5, .int ((sX7_swap f g (xs (i5 + 1)) (xs (i5 + 2))).1 0)), (6, .int (vX7_swap f g (xs (i5 + 1)) (xs (i5 + 2))))]) [] := by
    refine j_goto C0 1521 dL_law_948 (by decide) ?_
    refine j_locals (L' := [(0, .ref b), (1, .ref (c6 0)), (2, .ref (c7 0)), (3, .ref o), (4, .int (nI i5))]) (fun q hq => List.mem_append_left _ hq) (lok_of rfl rfl) ?_
    exact j_widen (k := cells + (8 + 2 * (N 1 - N 1))) (n := slots + (300 + 165 * (N 1 - N 1))) (Nat.add_le_add_left (Nat.le_add_right 8 _) cells) (Nat.add_le_add_left (Nat.le_add_right 300 _) slots) (kk _ _ _ _ _ _ _ zi (Nat.le_refl _))
  refine j_if_ne C0 948 dL_law_933 (by decide) (fun _ => fin) (fun z0 => ?_)
  refine j_aload_n C0 dL_law_936 rfl ?_
  refine j_iconst C0 dL_law_937 (v := 0) rfl ?_
  refine j_laldO C0 (w := w9) dL_law_938 (fun H h => h.2.2) ?_
  refine j_iload C0 dL_law_939 rfl ?_
  refine j_i2l C0 dL_law_941 (v := (vX7_swap f g (xs (i5 + 1)) (xs (i5 + 2))).toInt64) rfl ?_
  refine j_lcmp C0 dL_law_942 ?_
  exact j_if_eq C0 948 dL_law_943 (by decide) (fun _ => fin) (fun z => absurd (lg_cmp_0.mpr ((hw9 z0).trans (by rw [hv z0]))) z)
theorem lc_rota (hsl : l.stackTraces = false) (C0 : CX p l s m args meth cd RL cL_law 7 ret9 D Y (fun q => s.heap.size ≤ q) (EL (fun q => s.heap.size ≤ q) tE mi)) (hX : va_X b Ls xs s s.heap) (hbl : b < s.heap.size) (hLs : Ls ≤ 2560) (hi : i5 + 4 < Ls) (ho : s.heap.size ≤ o) (hro : o ∉ rL c7) (hc : cells + 300 ≤ 601024) (hs : slots + 17000 ≤ 7293034) (hz : zI F G N Q f g)
    (kk : ∀ (F' : Nat → Int32) (G' : Nat → Nat → Int32) (N' : Nat → Nat) (Q' : Nat → Nat → Nat) (f' : Nat → Int32) (g' : Nat → Nat → Int32) (w' : Int64), zI F' G' N' Q' f' g' → N 1 ≤ N' 1 → J p l e room_1 s m args below meth cd (fun q => s.heap.size ≤ q) 7 Q9 (LW D Y s.heap.size tE o c6 c7 F' G' N' Q' f' g' w') (cells + (8 + 2 * (N' 1 - N 1))) (slots + (300 + 165 * (N' 1 - N 1))) 1521 [(0, .ref b), (1, .ref (c6 0)), (2, .ref (c7 0)), (3, .ref o), (4, .int (nI i5))] []) :
    J p l e room_1 s m args below meth cd (fun q => s.heap.size ≤ q) 7 Q9 (LW D Y s.heap.size tE o c6 c7 F G N Q f g w) cells slots 951 [(0, .ref b), (1, .ref (c6 0)), (2, .ref (c7 0)), (3, .ref o), (4, .int (nI i5))] [] := by
  have hbA : ¬ (fun q => s.heap.size ≤ q) b := Nat.not_le.mpr hbl
  obtain ⟨zx, zi⟩ := zf_rota (xs (i5 + 1)) hz
  have hzz : (eX6_rota F G N Q (xs (i5 + 1)) = 0 ∧ (sX7_rota f g (xs (i5 + 1))).1 0 = 0) ∨ (eX6_rota F G N Q (xs (i5 + 1)), (sX7_rota f g (xs (i5 + 1))).1 0) ∈ ([(1, 1)] : List (Nat × Int32)) := zx.imp (fun h => ⟨h.1, h.2.1⟩) id
  have hv : (sX7_rota f g (xs (i5 + 1))).1 0 = 0 → vX6_rota F G N Q (xs (i5 + 1)) = vX7_rota f g (xs (i5 + 1)) := by
    intro h0
    rcases zx with h | h
    · exact h.2.2
    · rw [h0] at h
      simp at h
  refine j_aload_n C0 dL_law_951 rfl ?_
  refine j_word C0 hX hbl hbA (k := 1) rfl (by omega) hLs rfl rfl dL_law_952 dL_law_953 dL_law_955 dL_law_956 dL_law_957 ?_
  refine j_aload_n C0 dL_law_958 rfl ?_
  refine j_callSW C0 (As := [.ref (c6 0), .int (xs (i5 + 1)), .ref o]) (rest := []) (lw_kw (P := fun w' => (sX7_rota f g (xs (i5 + 1))).1 0 = 0 → w' = (vX6_rota F G N Q (xs (i5 + 1))).toInt64) (f := f) (g := g) (kw_rota hsl (A := (fun q => s.heap.size ≤ q ∧ q ∉ rL c7)) (E := EL (fun q => s.heap.size ≤ q ∧ q ∉ rL c7) tE mi) (fun U h => h) c6 F G N Q (xs (i5 + 1)) o ⟨ho, hro⟩ w ((sX7_rota f g (xs (i5 + 1))).1 0) hzz)) msw_rota wm_L_134 rfl rfl ⟨(Nat.le_of_ble_eq_true rfl), (Nat.le_of_ble_eq_true rfl)⟩ (Nat.le_of_ble_eq_true rfl) ⟨by show cells + (8) ≤ 601024; omega, by show slots + (300) ≤ 7293034; omega⟩ dL_law_959 ?_
  refine j_ex (fun w9 => j_and (fun hw9 => ?_))
  refine j_istore C0 dL_law_962 (Nat.le_of_ble_eq_true rfl) rfl ?_
  refine j_aload_n C0 dL_law_964 rfl ?_
  refine j_word C0 hX hbl hbA (k := 1) rfl (by omega) hLs rfl rfl dL_law_965 dL_law_966 dL_law_968 dL_law_969 dL_law_970 ?_
  refine j_callVv C0 (As := [.int (xs (i5 + 1))]) (rest := []) (lw_kr (w := w9) (tE := tE) (c6 := c6) (D := D) (Y := Y) (E := EL (fun q => s.heap.size ≤ q) tE mi) ho hro (fun A' => k_X7_rota hsl (A := A') (E := fun _ => True) c7 f g (xs (i5 + 1)) (zI_RI hz))) mv_X7_rota wm_L_136 (lw_rec7 C0) rfl rfl ⟨(Nat.le_of_ble_eq_true rfl), (Nat.le_of_ble_eq_true rfl)⟩ (Nat.le_of_ble_eq_true rfl) ⟨by show cells + (8) + 0 ≤ 601024; omega, by show slots + (300) + 0 ≤ 7293034; omega⟩ dL_law_971 ?_
  refine j_istore C0 dL_law_974 (Nat.le_of_ble_eq_true rfl) rfl ?_
  refine j_aload_n C0 dL_law_976 rfl ?_
  refine j_callVv C0 (As := []) (rest := []) (lw_kr (w := w9) (tE := tE) (c6 := c6) (D := D) (Y := Y) (E := EL (fun q => s.heap.size ≤ q) tE mi) ho hro (fun A' => k_X7_thrown hsl (A := A') (E := fun _ => True) c7 (sX7_rota f g (xs (i5 + 1))).1 (sX7_rota f g (xs (i5 + 1))).2)) mv_X7_thrown wm_L_94 (lw_rec7 C0) rfl rfl ⟨(Nat.le_of_ble_eq_true rfl), (Nat.le_of_ble_eq_true rfl)⟩ (Nat.le_of_ble_eq_true rfl) ⟨by show cells + (8) + 0 + 0 ≤ 601024; omega, by show slots + (300) + 0 + 0 ≤ 7293034; omega⟩ dL_law_977 ?_
  refine j_iload C0 dL_law_980 rfl ?_
  refine j_icmp_eq C0 987 dL_law_982 (by decide) (fun _ => ?_) (fun z => absurd rfl z)
  refine j_iload C0 dL_law_987 rfl ?_
  have fin : J p l e room_1 s m args below meth cd (fun q => s.heap.size ≤ q) 7 Q9 (LW D Y s.heap.size tE o c6 c7 F G N Q (sX7_rota f g (xs (i5 + 1))).1 (sX7_rota f g (xs (i5 + 1))).2 w9) (cells + (8) + 0 + 0) (slots + (300) + 0 + 0) 1004 ([(0, .ref b), (1, .ref (c6 0)), (2, .ref (c7 0)), (3, .ref o), (4, .int (nI i5))] ++ [(5, .int ((sX7_rota f g (xs (i5 + 1))).1 0)), (6, .int (vX7_rota f g (xs (i5 + 1))))]) [] := by
    refine j_goto C0 1521 dL_law_1004 (by decide) ?_
    refine j_locals (L' := [(0, .ref b), (1, .ref (c6 0)), (2, .ref (c7 0)), (3, .ref o), (4, .int (nI i5))]) (fun q hq => List.mem_append_left _ hq) (lok_of rfl rfl) ?_
    exact j_widen (k := cells + (8 + 2 * (N 1 - N 1))) (n := slots + (300 + 165 * (N 1 - N 1))) (Nat.add_le_add_left (Nat.le_add_right 8 _) cells) (Nat.add_le_add_left (Nat.le_add_right 300 _) slots) (kk _ _ _ _ _ _ _ zi (Nat.le_refl _))
  refine j_if_ne C0 1004 dL_law_989 (by decide) (fun _ => fin) (fun z0 => ?_)
  refine j_aload_n C0 dL_law_992 rfl ?_
  refine j_iconst C0 dL_law_993 (v := 0) rfl ?_
  refine j_laldO C0 (w := w9) dL_law_994 (fun H h => h.2.2) ?_
  refine j_iload C0 dL_law_995 rfl ?_
  refine j_i2l C0 dL_law_997 (v := (vX7_rota f g (xs (i5 + 1))).toInt64) rfl ?_
  refine j_lcmp C0 dL_law_998 ?_
  exact j_if_eq C0 1004 dL_law_999 (by decide) (fun _ => fin) (fun z => absurd (lg_cmp_0.mpr ((hw9 z0).trans (by rw [hv z0]))) z)
end
