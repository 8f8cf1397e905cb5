section
theorem KE.subH {l : Launch} {y : MethodName} {bytes : ByteArray} {mL : Nat} {rt : Option FieldType} {D : va_G} {Y : Nat → ClassId} {A : Nat → Prop} {E : State → Prop} {fr lo mc ms : Nat} {av : List Value} {Ψ : Heap → Prop} {Ψ' : Option Value → Heap → Prop} (h : ∀ H0, Ψ H0 → ∃ A' E' Ω Θ, KE l y bytes mL rt D Y A' E' fr lo mc ms av Ω Θ ∧ (∀ q, A' q → A q) ∧ (∀ U, E U → E' U) ∧ hbC A' E' ∧ (∀ q, H0.size ≤ q → A q → A' q) ∧ Ω H0 ∧ ∀ (rv : Option Value) (H' : Heap), Θ rv H' → H0.size ≤ H'.size → (∀ q, q < H0.size → ¬ A' q → H'[q]? = H0[q]?) → Ψ' rv H') : KE l y bytes mL rt D Y A E fr lo mc ms av Ψ Ψ' := by
  intro p e ha hc hk9 s m args below hfr happ hP hK
  obtain ⟨hv, hW, hΨ⟩ := hP
  obtain ⟨A', E', Ω, Θ, g1, g2, g3, g4, g5, g6, g7⟩ := h s.heap hΨ
  obtain ⟨n, o, h1, h2, h3, ⟨⟨rv, k1, k2⟩, k3⟩, L, hL, hb⟩ := g1 p e ha hc hk9 s m args below hfr happ ⟨hv, hW.sub g3 g4 g5, g6⟩ hK
  exact ⟨n, o, h1, h2, h3, ⟨⟨rv, k1, g7 rv _ k2 k3.1 k3.2⟩, k3.sub g2⟩, L, hL, fun z hz => g2 _ (hb z hz)⟩
theorem nk_one {c : Nat × va_E} : nk (va_up (fun _ => none) 0 (some c)) [c] (fun _ => 0) := by
  refine ⟨fun n c' h => ?_, fun n n' c1 c2 h h' _ => ?_⟩
  · by_cases q : n = 0
    · rw [q, up_same] at h
      exact h
    · rw [up_ne _ _ q] at h
      exact absurd h (by simp)
  · by_cases q : n = 0
    · by_cases q' : n' = 0
      · rw [q, q']
      · rw [up_ne _ _ q'] at h'
        exact absurd h' (by simp)
    · rw [up_ne _ _ q] at h
      exact absurd h (by simp)
theorem j_newM {p : Program} {l : Launch} {e : Env} {R : Room} {s : State} {m : MethodId} {args : Array Value} {below : List Frame} {meth : Method} {c : Code} {Q : State → Prop} {Ω : Heap → Prop} {cells slots pc nL : Nat} {L : List (Nat × Value)} {st : List Value} {own C : String} {cc : ByteArray} {ret9 : Option FieldType} {D : va_G} {Y : Nat → ClassId} {E : State → Prop} {T : u_T} {N ci index : Nat} (C0 : CX p l s m args meth c own cc nL ret9 D Y (fun q => s.heap.size ≤ q) E) (hin : ∀ w ∈ u_ws C T N, w ∈ TB) (ty : Nat → FieldType) (hty : ∀ k, k < N → parseFieldDescriptor (T k).2.2.1 = some (ty k)) (hcl : Cond.classLink own index C ∈ TB) (hinst : Cond.instantiable C N ∈ TB) (hini : Cond.initialized C ∈ TB) (hc : vwCl[ci]? = some (C, T, N)) {fs : List Value} (hfs : ∀ j, j < N → defaultValue (ty j) = vp_V fs j) (hcells : cells + 1 ≤ R.cells) (hslots : slots + N ≤ R.slots) (d : decode cc pc = .ok (.new index, 3))
    (kk : ∀ a, J p l e R s m args below meth c (fun q => s.heap.size ≤ q) nL Q (fun H' => ∃ t, s.heap.size ≤ t ∧ (∃ H, Ω H ∧ H.size = t ∧ ∀ q, q < t → H'[q]? = H[q]?) ∧ NW D (fun q => t ≤ q) (va_up (fun _ => none) 0 (some (a, .inr (ci, fs)))) H') (cells + 1) (slots + N) (pc + 3) L (.ref a :: st)) : J p l e R s m args below meth c (fun q => s.heap.size ≤ q) nL Q Ω cells slots pc L st := by
  intro H locs ls h1 h2 h3 h4
  refine va_forget (fun q hq => h2.2.2 q hq) ?_
  refine va_new (A := fun q => H.size ≤ q) (H0 := H) (ws := []) (locs := []) C0.1 C0.2.1 C0.2.2.2.2.1 hin ty hty C0.2.2.2.1 (C0.2.2.2.2.1 _ hcl) (C0.2.2.2.2.1 _ hinst) (C0.2.2.2.2.1 _ hini) C0.2.2.2.2.2.2.2.1.2.1 (fun k q h => by simp at h) ⟨fun i j p q h => by simp at h, fun k q h => by simp at h⟩ va_S.rf (fun _ h => h) hc hfs hcells hslots d (fun q H1 k1 k2 k3 => ?_)
  exact kk q H1 [] ls ⟨H.size, h2.1, ⟨H, h1, rfl, fun x hx => k3.2.1 x hx (Nat.not_le.mpr hx)⟩, [(q, .inr (ci, fs))], fun _ => 0, nk_one, k1, k2⟩ ⟨Nat.le_trans h2.1 k3.1, fun x y1 y2 => (k3.2.1 x (Nat.lt_of_lt_of_le y1 h2.1) (Nat.not_le.mpr (Nat.lt_of_lt_of_le y1 h2.1))).trans (h2.2.1 x y1 y2), fun q hq => by cases hq⟩ h3 h4
theorem NW_lt {D : va_G} {A : Nat → Prop} {c : Nat × va_E} {H : Heap} (h : NW D A (va_up (fun _ => none) 0 (some c)) H) : c.1 < H.size ∧ A c.1 := by
  obtain ⟨ws, pos, hn, hP, hD⟩ := h
  have e := hn.1 0 c (up_same _ _ _)
  exact ⟨vx_lt hP e, hD.2 _ _ e⟩
end
theorem whole_start {p : Program} {e : Env} {s : State} {m : MethodId} {below : List Frame} {meth : Method} {c : Code} (l : Launch) (hflags : l.flags = flags0) {b L : Nat} {xs : Nat → Int32} (hL : L ≤ 2560) (C0 : lw_At p s m meth c b L xs) : W p l e room_1 s m #[Value.ref b] below meth c s.heap [] 0 0 (lw_Z below #[Value.ref b] s) (entryFrame m ([Value.ref b] : List Value).toArray 7) := by
  obtain ⟨hx, hb, hr, hml, hown, hts, hX, hbl, hlocks, hgv⟩ := id C0
  obtain ⟨D, Y, tE, mi, hK, hE⟩ := lw_stat hts hgv
  have hsl : l.stackTraces = false := by
    unfold Launch.stackTraces
    rw [hflags]
    decide
  have CL : CX p l s m #[Value.ref b] meth c RL cL_law 7 ret D Y (fun q => s.heap.size ≤ q) (EL (fun q => s.heap.size ≤ q) tE mi) := ⟨hx, hb, hml, hown, fun w hw => hts w (List.mem_filter.mp hw).1, hr, hlocks, ⟨fun q h => h, hK, hE, EL.closed _ tE mi⟩, hsl⟩
  have hl := lv_entry ([.ref b]) (n := 7) (Nat.le_of_ble_eq_true rfl)
  have hJ : J p l e room_1 s m #[Value.ref b] below meth c (fun q => s.heap.size ≤ q) 7 (lw_Z below #[Value.ref b] s) (fun _ => True) 0 0 0 [(0, .ref b)] [] := by
    refine j_newM CL in_X6 tyX6 tyX6_ok wc_L_8 (TB_in (tb1 (List.mem_of_getElem? (i := 32) rfl)) rfl) (TB_in (tb1 (List.mem_of_getElem? (i := 1) rfl)) rfl) (ci := 9) rfl (fs := [.null, .null, .null, .null, .null, .int 0, .int 0, .int 0]) (fun j hj => by rcases j with _ | _ | _ | _ | _ | _ | _ | _ | j <;> first | rfl | omega) (Nat.le_of_ble_eq_true rfl) (Nat.le_of_ble_eq_true rfl) dL_law_0 (fun a6 => ?_)
    refine j_dup CL dL_law_3 rfl ?_
    refine j_world (Ω' := NW D (fun q => s.heap.size ≤ q) (va_up (fun _ => none) 0 (some (a6, .inr (9, [.null, .null, .null, .null, .null, .int 0, .int 0, .int 0]))))) (fun H h => ?_) ?_
    · obtain ⟨t, h1, -, h3⟩ := h
      exact h3.re (fun q _ z => Nat.le_trans h1 z)
    refine j_callIE CL (As := []) (rest := [.ref a6]) (k_X6_init hsl (A := (fun q => s.heap.size ≤ q)) (E := EL (fun q => s.heap.size ≤ q) tE mi) (fun U h => h.1)) mi_X6_init wm_L_84 rfl rfl ⟨(Nat.le_of_ble_eq_true rfl), (Nat.le_of_ble_eq_true rfl)⟩ (Nat.le_of_ble_eq_true rfl) ⟨(Nat.le_of_ble_eq_true rfl), (Nat.le_of_ble_eq_true rfl)⟩ dL_law_4 (fun rv => j_and (fun hrv => j_ex (fun c6 => j_and (fun h6 => ?_))))
    rw [hrv, ← h6]
    refine j_astore_n CL dL_law_7 (Nat.le_of_ble_eq_true rfl) rfl ?_
    refine j_world (Ω' := CA D Y (fun q => s.heap.size ≤ q) tE c6 (fun _ => 0) G0X6 (fun _ => 0) (fun _ _ => 0)) (fun H h => ⟨fun _ => 0, fun _ => 0, h⟩) ?_
    refine j_newM CL in_X7 tyX7 tyX7_ok wc_L_85 (TB_in (tb5 (List.mem_of_getElem? (i := 44) rfl)) rfl) (TB_in (tb1 (List.mem_of_getElem? (i := 10) rfl)) rfl) (ci := 10) rfl (fs := [.int 0, .int 0, .null, .null, .null, .int 0, .null, .null, .null, .null, .null, .null, .null, .null, .null, .null, .null, .null, .int 0, .int 0, .int 0, .null, .null, .null, .null, .null]) (fun j hj => by rcases j with _ | _ | _ | _ | _ | _ | _ | _ | _ | _ | _ | _ | _ | _ | _ | _ | _ | _ | _ | _ | _ | _ | _ | _ | _ | _ | j <;> first | rfl | omega) (Nat.le_of_ble_eq_true rfl) (Nat.le_of_ble_eq_true rfl) dL_law_8 (fun a7 => ?_)
    refine j_ex (fun t => j_and (fun ht => ?_))
    refine j_dup CL dL_law_11 rfl ?_
    refine j_world (Ω' := fun H => CA D Y (fun q => s.heap.size ≤ q ∧ q < t) tE c6 (fun _ => 0) G0X6 (fun _ => 0) (fun _ _ => 0) H ∧ NW D (fun q => t ≤ q) (va_up (fun _ => none) 0 (some (a7, .inr (10, [.int 0, .int 0, .null, .null, .null, .int 0, .null, .null, .null, .null, .null, .null, .null, .null, .null, .null, .null, .null, .int 0, .int 0, .int 0, .null, .null, .null, .null, .null])))) H) (fun H h => ?_) ?_
    · obtain ⟨⟨H1, h1, h2, h3⟩, h4⟩ := h
      exact ⟨(h1.re (A' := fun q => s.heap.size ≤ q ∧ q < t) (fun q q1 q2 => ⟨q2, by omega⟩)).keep (fun q q1 q2 => h3 q q2.2), h4⟩
    refine j_callIE CL (As := []) (rest := [.ref a7]) (KE.subH (A := (fun q => s.heap.size ≤ q)) (E := EL (fun q => s.heap.size ≤ q) tE mi) (Ψ' := fun rv H => rv = none ∧ ∃ c7 : Nat → Nat, c7 0 = a7 ∧ (CA D Y (fun q => s.heap.size ≤ q ∧ q < t) tE c6 (fun _ => 0) G0X6 (fun _ => 0) (fun _ _ => 0) H ∧ OR D Y (fun q => t ≤ q) c7 (fun _ => 0) G0X7 H)) (fun H0 h0 => ⟨fun q => t ≤ q, fun _ => True, _, _, k_X7_init hsl (D := D) (Y := Y) (A := fun q => t ≤ q) (E := fun _ => True) (a := a7), fun q hq => Nat.le_trans ht hq, fun _ _ => trivial, fun _ _ _ _ _ => trivial, fun q q1 q2 => by have := NW_lt h0.2; exact Nat.le_trans this.2 (Nat.le_trans (Nat.le_of_lt this.1) q1), h0.2, fun rv H' g1 g2 g3 => by
      obtain ⟨g4, c7, g5, g6⟩ := g1
      exact ⟨g4, c7, g5, h0.1.keep (fun q q1 q2 => g3 q q1 (Nat.not_le.mpr q2.2)), g6⟩⟩)) mi_X7_init wm_L_87 rfl rfl ⟨(Nat.le_of_ble_eq_true rfl), (Nat.le_of_ble_eq_true rfl)⟩ (Nat.le_of_ble_eq_true rfl) ⟨(Nat.le_of_ble_eq_true rfl), (Nat.le_of_ble_eq_true rfl)⟩ dL_law_12 (fun rv => j_and (fun hrv => j_ex (fun c7 => j_and (fun h7 => ?_))))
    rw [hrv, ← h7]
    refine j_astore_n CL dL_law_15 (Nat.le_of_ble_eq_true rfl) rfl ?_
    refine j_iconst CL dL_law_16 (v := 1) rfl ?_
    refine j_newL CL (TB_in (tb6 (List.mem_of_getElem? (i := 77) rfl)) rfl) (Nat.le_of_ble_eq_true rfl) (Nat.le_of_ble_eq_true rfl) dL_law_17 (fun o => ?_)
    refine j_get_fact (P := s.heap.size ≤ o ∧ o ∉ rL c7) (fun H h => ?_) (fun hfact => ?_)
    · obtain ⟨H1, ⟨-, h2⟩, h3, h4, h5, h6, h7⟩ := h
      exact ⟨h6, fun z => by have := h2.lt _ z; omega⟩
    refine j_world (Ω' := LW D Y s.heap.size tE o c6 c7 (fun _ => 0) G0X6 (fun _ => 0) (fun _ _ => 0) (fun _ => 0) G0X7 0) (fun H h => ?_) ?_
    · obtain ⟨H1, ⟨h1, h2⟩, h3, h4, h5, h6, h7⟩ := h
      have z0 : c7 0 ∈ rL c7 := List.mem_cons_self ..
      have z1 := h2.lt _ z0
      have z2 := h2.inA _ z0
      refine ⟨(h1.keep (H' := H) (fun q q1 q2 => h5 q (by omega))).re (fun q q1 q2 => ⟨⟨q2.1, fun z => ?_⟩, ?_⟩), (h2.keep (H' := H) (fun q hq => h5 q (by have := h2.lt q hq; omega))).re (fun q hq => Nat.le_trans ht (h2.inA q hq)), h7⟩
      · have := h2.inA _ z
        exact absurd q2.2 (Nat.not_lt.mpr this)
      · have q3 := q2.2
        have z3 : t ≤ c7 0 := z2
        omega
    refine j_astore_n CL dL_law_19 (Nat.le_of_ble_eq_true rfl) rfl ?_
    refine j_iconst CL dL_law_20 (v := nI (5 * 0)) rfl ?_
    refine j_istore CL dL_law_21 (Nat.le_of_ble_eq_true rfl) rfl ?_
    exact lw_loop hsl CL hr hX hbl hL hfact.1 hfact.2 513 0 rfl _ _ _ _ _ _ 0 _ _ zI_init (Nat.le_of_ble_eq_true rfl) (Nat.le_of_ble_eq_true rfl)
  rw [lg_entry_eq]
  exact hJ s.heap [] _ trivial va_S.rf hl (lok_of rfl rfl)
