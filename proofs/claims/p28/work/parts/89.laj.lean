section
set_option maxRecDepth 100000 in
set_option maxHeartbeats 4000000 in
theorem ls_18 {p : Program} {l : Launch} {e : Env} {s : State} {m : MethodId} {args : Array Value} {below : List Frame} {meth : Method} {c : Code} (hsl : l.stackTraces = false) {D : va_G} {Y : Nat → ClassId} {z tE mi ac ap : Nat} {ad : Nat → Nat} (C0 : CX p l s m args meth c RL cL_step 21 (some .boolean) D Y (fun q => z ≤ q) (EC (fun q => z ≤ q) tE mi)) {t : Nat} (F : Nat → Int32) (G : Nat → Nat → Int32) (N : Nat → Nat) (Q : Nat → Nat → Nat) (cf pf : Nat → Int32) (hL : zL t F G N Q cf pf) (a b k w : Nat) (ha : a < 2 ^ 31) (hb : b < 2 ^ 31) (hk : 0 < N 0 → k < N 0) (hw : w < 2 ^ 31) : J p l e { frames := 14, cells := 3900, slots := 33000, locals := 610 } s m args below meth c (fun q => z ≤ q) 21 (MQ below (KQ (fun q => z ≤ q) (LG D Y z tE ac ap ad) (some (.int 1))) args s 3900 33000 (fun q => z ≤ q)) (LV D Y z tE ac ap ad F G N Q cf pf) 0 0 18 [(0, .ref (ad 0)), (1, .ref (ac)), (2, .ref (ap)), (3, .int (nI w)), (4, .int (nI a)), (5, .int (nI b)), (6, .int (nI k))] [] := by
  have hn0 := hL.1.n0
  have hn1 := hL.1.n1
  have h10 := hL.2.1.1
  have htt := hL.1.tt.1
  have hM := hL.2.2.2.2.2.2.2.1
  refine j_iload_n C0 dL_step_18 rfl ?_
  refine j_bipush C0 (v := 18) dL_step_19 (by decide) ?_
  refine j_irem C0 dL_step_21 (by decide) ?_
  refine j_top (nI (w % 18)) (pk_rem (a := w) (d := 18) (by omega) (by first | decide | omega) (by first | decide | omega)) ?_
  have hlt : w % 18 < 18 := Nat.mod_lt _ (by decide)
  rcases (show w % 18 = 0 ∨ w % 18 = 1 ∨ w % 18 = 2 ∨ w % 18 = 3 ∨ w % 18 = 4 ∨ w % 18 = 5 ∨ w % 18 = 6 ∨ w % 18 = 7 ∨ w % 18 = 8 ∨ w % 18 = 9 ∨ w % 18 = 10 ∨ w % 18 = 11 ∨ w % 18 = 12 ∨ w % 18 = 13 ∨ w % 18 = 14 ∨ w % 18 = 15 ∨ w % 18 = 16 ∨ w % 18 = 17 by omega) with q | q | q | q | q | q | q | q | q | q | q | q | q | q | q | q | q | q
  · rw [q]
    exact j_tabIn (off := 70) C0 92 dL_step_22 (by decide) (by decide) (by decide) (by decide) (ls_92 hsl C0 F G N Q cf pf hL a b k w ha hb hk)
  · rw [q]
    exact j_tabIn (off := 70) C0 92 dL_step_22 (by decide) (by decide) (by decide) (by decide) (ls_92 hsl C0 F G N Q cf pf hL a b k w ha hb hk)
  · rw [q]
    exact j_tabIn (off := 70) C0 92 dL_step_22 (by decide) (by decide) (by decide) (by decide) (ls_92 hsl C0 F G N Q cf pf hL a b k w ha hb hk)
  · rw [q]
    exact j_tabIn (off := 97) C0 119 dL_step_22 (by decide) (by decide) (by decide) (by decide) (ls_119 hsl C0 F G N Q cf pf hL a b k w ha hb hk)
  · rw [q]
    exact j_tabIn (off := 182) C0 204 dL_step_22 (by decide) (by decide) (by decide) (by decide) (ls_204 hsl C0 F G N Q cf pf hL a b k w ha hb hk)
  · rw [q]
    exact j_tabIn (off := 251) C0 273 dL_step_22 (by decide) (by decide) (by decide) (by decide) (ls_273 hsl C0 F G N Q cf pf hL a b k w ha hb hk)
  · rw [q]
    exact j_tabIn (off := 251) C0 273 dL_step_22 (by decide) (by decide) (by decide) (by decide) (ls_273 hsl C0 F G N Q cf pf hL a b k w ha hb hk)
  · rw [q]
    exact j_tabIn (off := 354) C0 376 dL_step_22 (by decide) (by decide) (by decide) (by decide) (ls_376 hsl C0 F G N Q cf pf hL a b k w ha hb hk)
  · rw [q]
    exact j_tabIn (off := 354) C0 376 dL_step_22 (by decide) (by decide) (by decide) (by decide) (ls_376 hsl C0 F G N Q cf pf hL a b k w ha hb hk)
  · rw [q]
    exact j_tabIn (off := 354) C0 376 dL_step_22 (by decide) (by decide) (by decide) (by decide) (ls_376 hsl C0 F G N Q cf pf hL a b k w ha hb hk)
  · rw [q]
    exact j_tabIn (off := 354) C0 376 dL_step_22 (by decide) (by decide) (by decide) (by decide) (ls_376 hsl C0 F G N Q cf pf hL a b k w ha hb hk)
  · rw [q]
    exact j_tabIn (off := 475) C0 497 dL_step_22 (by decide) (by decide) (by decide) (by decide) (ls_497 hsl C0 F G N Q cf pf hL a b k w ha hb hk)
  · rw [q]
    exact j_tabIn (off := 594) C0 616 dL_step_22 (by decide) (by decide) (by decide) (by decide) (ls_616 hsl C0 F G N Q cf pf hL a b k w ha hb hk)
  · rw [q]
    exact j_tabIn (off := 649) C0 671 dL_step_22 (by decide) (by decide) (by decide) (by decide) (ls_671 hsl C0 F G N Q cf pf hL a b k w ha hb hk)
  · rw [q]
    exact j_tabOut C0 771 dL_step_22 (Or.inr (by decide)) (by decide) (ls_771 hsl C0 F G N Q cf pf hL a b k w ha hb hk)
  · rw [q]
    exact j_tabOut C0 771 dL_step_22 (Or.inr (by decide)) (by decide) (ls_771 hsl C0 F G N Q cf pf hL a b k w ha hb hk)
  · rw [q]
    exact j_tabOut C0 771 dL_step_22 (Or.inr (by decide)) (by decide) (ls_771 hsl C0 F G N Q cf pf hL a b k w ha hb hk)
  · rw [q]
    exact j_tabOut C0 771 dL_step_22 (Or.inr (by decide)) (by decide) (ls_771 hsl C0 F G N Q cf pf hL a b k w ha hb hk)
set_option maxRecDepth 100000 in
set_option maxHeartbeats 4000000 in
theorem k_L_step {l : Launch} (hsl : l.stackTraces = false) {D : va_G} {Y : Nat → ClassId} {z tE mi ac ap : Nat} {ad : Nat → Nat} (w a b : Nat) (hw : w < 2 ^ 31) (ha : a < 2 ^ 31) (hb : b < 2 ^ 31) : KM l yL_step cL_step 21 (some .boolean) D Y (fun q => z ≤ q) (EC (fun q => z ≤ q) tE mi) 14 610 3900 33000 [.ref (ad 0), .ref (ac), .ref (ap), .int (nI w), .int (nI a), .int (nI b)] (LG D Y z tE ac ap ad) (some (.int 1)) (LG D Y z tE ac ap ad) := by
  refine KM_of RL [(0, .ref (ad 0)), (1, .ref (ac)), (2, .ref (ap)), (3, .int (nI w)), (4, .int (nI a)), (5, .int (nI b))] rfl (by decide) hsl (Nat.le_of_ble_eq_true rfl) rfl (lok_of rfl rfl) ?_
  intro p e s m args below meth c C0
  refine lg_open (fun t F G N Q cf pf hL => ?_)
  have h10 := hL.2.1.1
  refine j_aload_n C0 dL_step_0 rfl ?_
  refine j_iconst C0 (v := 1) dL_step_1 (by decide) ?_
  refine l_ldcN C0 (i := 1) (by omega) dL_step_2 (v := nI (N 0)) hL.2.2.2.1 ?_
  refine j_if_ne C0 10 dL_step_3 (by decide) (fun (q1 : ¬ (nI (N 0) = 0)) => ?_) (fun (q1 : nI (N 0) = 0) => ?_)
  ·
    have hpos : 0 < N 0 := by
      apply Classical.byContradiction
      intro z9
      have e9 : N 0 = 0 := by omega
      exact q1 (by rw [e9]; rfl)
    refine j_iload C0 dL_step_10 rfl ?_
    refine j_aload_n C0 dL_step_12 rfl ?_
    refine j_iconst C0 (v := 1) dL_step_13 (by decide) ?_
    refine l_ldcN C0 (i := 1) (by omega) dL_step_14 (v := nI (N 0)) hL.2.2.2.1 ?_
    refine j_irem C0 dL_step_15 (q1) ?_
    refine j_top (nI (a % (N 0))) (pk_rem (a := a) (d := N 0) (by omega) (by first | decide | omega) (by first | decide | omega)) ?_
    refine j_istore C0 (L' := [(0, .ref (ad 0)), (1, .ref (ac)), (2, .ref (ap)), (3, .int (nI w)), (4, .int (nI a)), (5, .int (nI b)), (6, .int (nI (a % (N 0))))]) dL_step_16 (by decide) rfl ?_
    exact ls_18 hsl C0 F G N Q cf pf hL a b (a % (N 0)) w ha hb (fun z9 => Nat.mod_lt _ z9) hw
  ·
    refine j_iconst C0 (v := 0) dL_step_6 (by decide) ?_
    refine j_goto C0 16 dL_step_7 (by decide) ?_
    refine j_istore C0 (L' := [(0, .ref (ad 0)), (1, .ref (ac)), (2, .ref (ap)), (3, .int (nI w)), (4, .int (nI a)), (5, .int (nI b)), (6, .int ((0 : Int32)))]) dL_step_16 (by decide) rfl ?_
    refine j_castL (L' := [(0, .ref (ad 0)), (1, .ref ac), (2, .ref ap), (3, .int (nI w)), (4, .int (nI a)), (5, .int (nI b)), (6, .int (nI 0))]) rfl ?_
    exact ls_18 hsl C0 F G N Q cf pf hL a b 0 w ha hb (fun z9 => z9) hw
theorem km_E {l : Launch} {y : MethodName} {bytes : ByteArray} {mL : Nat} {rt : Option FieldType} {D : va_G} {Y : Nat → ClassId} {A : Nat → Prop} {E E' : State → Prop} {fr lo mc ms : Nat} {av : List Value} {Ω Ω' : Heap → Prop} {rv : Option Value} (hE : ∀ U, E U → E' U) (hC : hbC A E') (h : KM l y bytes mL rt D Y A E' fr lo mc ms av Ω rv Ω') : KM l y bytes mL rt D Y A E fr lo mc ms av Ω rv Ω' := h.sub (fun q h => h) hE hC (fun H h => ⟨h, fun q _ h => h⟩) (fun H H' _ h' _ _ => h')
theorem km_lg {l : Launch} {y : MethodName} {bytes : ByteArray} {mL : Nat} {rt : Option FieldType} {D : va_G} {Y : Nat → ClassId} {A : Nat → Prop} {E : State → Prop} {fr lo mc ms : Nat} {av : List Value} {rv : Option Value} {z tE ac ap : Nat} {ad : Nat → Nat} (h : ∀ (t : Nat) (F : Nat → Int32) (G : Nat → Nat → Int32) (N : Nat → Nat) (Q : Nat → Nat → Nat) (cf pf : Nat → Int32), zL t F G N Q cf pf → KM l y bytes mL rt D Y A E fr lo mc ms av (LV D Y z tE ac ap ad F G N Q cf pf) rv (LV D Y z tE ac ap ad F G N Q cf pf)) : KM l y bytes mL rt D Y A E fr lo mc ms av (LG D Y z tE ac ap ad) rv (LG D Y z tE ac ap ad) := by
  intro p e ha hc hk s m args below hf happ hP hK
  obtain ⟨hv, hW, t, F, G, N, Q, cf, pf, hz, hΩ⟩ := hP
  obtain ⟨n, o, h1, h2, h3, ⟨ho, hΩ', hF⟩, hL⟩ := h t F G N Q cf pf hz p e ha hc hk s m args below hf happ ⟨hv, hW, hΩ⟩ hK
  exact ⟨n, o, h1, h2, h3, ⟨ho, ⟨t, F, G, N, Q, cf, pf, hz, hΩ'⟩, hF⟩, hL⟩
/-- the static things at the law, the script among them -/
def ES (A : Nat → Prop) (tE mi b Ls : Nat) (xs : Nat → Int32) (U : State) : Prop := EC A tE mi U ∧ va_X b Ls xs U U.heap ∧ b < U.heap.size ∧ ¬ A b
theorem ES.closed (A : Nat → Prop) (tE mi b Ls : Nat) (xs : Nat → Int32) : hbC A (ES A tE mi b Ls xs) := fun s U h hW hq => by
  obtain ⟨h1, h2, h3, h4⟩ := h
  have e := hq b h3 h4
  have h2' := h2.kept e
  refine ⟨EC.closed A tE mi s U h1 hW hq, va_X.moved hW.alike h2', ?_, h4⟩
  obtain ⟨scr, k1, _⟩ := h2'
  exact (Array.getElem?_eq_some_iff.mp k1).1
theorem z_draw (x : Int32) : ∃ d, d < 2 ^ 31 ∧ x &&& (2147483647 : Int32) = nI d := ⟨_, Nat.mod_lt _ (by decide), pk_and x 31 (by decide)⟩
theorem w_k7 : Cond.constant RL 7 2147483647 ∈ TB := TB_in (tb2 (List.mem_of_getElem? (i := 47) rfl)) rfl
theorem k_L_draw {l : Launch} (hsl : l.stackTraces = false) {D : va_G} {Y : Nat → ClassId} {A : Nat → Prop} {tE mi b Ls : Nat} {xs : Nat → Int32} {Ω : Heap → Prop} (k d : Nat) (hk : k < Ls) (hLs : Ls ≤ 260) (hd : xs k &&& (2147483647 : Int32) = nI d) : KM l yL_draw cL_draw 2 (some .int) D Y A (ES A tE mi b Ls xs) 0 0 0 0 [.ref b, .int (nI k)] Ω (some (.int (nI d))) Ω := by
  refine KM_of RL [(0, .ref b), (1, .int (nI k))] rfl (by decide) hsl (Nat.le_of_ble_eq_true rfl) rfl (lok_of rfl rfl) ?_
  intro p e s m args below meth c C0
  obtain ⟨-, hX, hbl, hbA⟩ := C0.2.2.2.2.2.2.2.1.2.2.1
  refine j_iload_n C0 dL_draw_0 rfl ?_
  refine j_aload_n C0 dL_draw_1 rfl ?_
  refine j_slen C0 hX hbl hbA dL_draw_2 ?_
  refine j_icmp_ge C0 15 dL_draw_3 (by decide) (fun z9 => absurd z9 (nI_ge hk (by omega))) (fun _ => ?_)
  refine j_aload_n C0 dL_draw_6 rfl ?_
  refine j_iload_n C0 dL_draw_7 rfl ?_
  refine j_sld C0 hX hbl hbA (x := xs k) (vp_in_nI hk (by omega)) (by rw [nI_clamp (by omega)]) dL_draw_8 ?_
  refine j_ldc C0 w_k7 dL_draw_9 ?_
  refine j_iand C0 dL_draw_11 ?_
  refine j_top (nI d) hd ?_
  refine j_goto C0 24 dL_draw_12 (by decide) ?_
  exact j_iret C0 rfl dL_draw_24 (fun H h => h)
end
