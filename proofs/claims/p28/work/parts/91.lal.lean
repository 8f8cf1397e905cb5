def R_law : String := "HarborTidesLaw"
def lw_P (b : Addr) (xs : List Int32) (args : Array Value) (s : State) : Prop := args = #[.ref b] ∧ s.IntsAt b xs ∧ xs.length ≤ 260 ∧ (Jvm.Cond.and given_1 narrow_1).before args s = true
def lw_Q (_ : Array Value) (s : State) (o : Outcome) (t : State) : Prop := o = .returned (some (.int 1)) ∧ Framed s o t [] 600104 7301314
def lw_Z (below : List Frame) (a : Array Value) (s : State) : State → Prop := fun t => ∃ o, t.status = .running ∧ Ended t below o ∧ lw_Q a s o t
/-- the law's own end, with 1 on the stack, nothing written that was there before, its room as the claim has it -/
theorem lw_ret {p : Program} {l : Launch} {e : Env} {s : State} {m : MethodId} {below : List Frame} {meth : Method} {c : Code} {b : Nat} (hx : p.tables.exec = Jvm.exec) (hb : c.code = code) (hr : meth.sig.returnType = ret) (hlocks : meth.locks = false) {pc : Nat} {H : Heap} {ls : Array Slot} (hdg : decode code pc = .ok (.ireturn, 1)) : W p l e room_1 s m #[Value.ref b] below meth c H [] 600104 7301314 (lw_Z below #[Value.ref b] s) (F0 m pc ls [.int 1]) := by
  intro T hT X
  obtain ⟨fs, hret, hrun, hended, hW, hframe⟩ := X.leave (v := some (.int 1)) (hlocks := hlocks) (fun h => by rw [hr] at h; cases h)
  have hmeth' : T.vm.method? m = some meth := X.method'
  refine ⟨T.setFrames fs, ?_, .returned (some (.int 1)), hrun, hended, rfl, ⟨_, rfl⟩, hW, hframe⟩
  jvm_step X.here [X.here.top, hx, hb, hdg, hmeth', hr, ret, narrow_b1]
  (try refine ⟨rfl, ?_⟩); (try refine ⟨rfl, ?_⟩)
  first | (intro acts; rw [hret _ acts rfl rfl rfl]) | rw [hret _ _ rfl rfl rfl]
  exact Steps.refl _
/-- what holds at the law's entry: the machine, the code, the tables' words (any of lw_tbl by 'hts w (by decide +kernel)'), the script of L ints xs at the cell b, what the Statement gives of the start (any of its parts by flat_of_before) -/
def lw_At (p : Program) (s : State) (m : MethodId) (meth : Method) (c : Code) (b L : Nat) (xs : Nat → Int32) : Prop :=
  p.tables.exec = Jvm.exec ∧ c.code = code ∧ meth.sig.returnType = ret ∧ c.maxLocals = 8 ∧ s.vm.findClass R_law = some m.cls ∧ (∀ w ∈ lw_tbl, w.before #[Value.ref b] s = true) ∧ va_X b L xs s s.heap ∧ b < s.heap.size ∧ meth.locks = false ∧ (Jvm.Cond.and given_1 narrow_1).before #[Value.ref b] s = true
section
theorem nk_one {c : Nat × va_E} : nk (va_up (fun _ => none) 0 (some c)) [c] (fun _ => 0) := by
  refine ⟨fun n c' h => ?_, fun n n' c1 c2 h h' _ => ?_⟩
  · by_cases q : n = 0
    · rw [q, up_same] at h
      exact h
    · rw [up_ne _ _ q] at h
      exact absurd h (by simp)
  · by_cases q : n = 0
    · by_cases q' : n' = 0
      · rw [q, q']
      · rw [up_ne _ _ q'] at h'
        exact absurd h' (by simp)
    · rw [up_ne _ _ q] at h
      exact absurd h (by simp)
theorem j_newM {p : Program} {l : Launch} {e : Env} {R : Room} {s : State} {m : MethodId} {args : Array Value} {below : List Frame} {meth : Method} {c : Code} {Q : State → Prop} {Ω : Heap → Prop} {cells slots pc nL : Nat} {L : List (Nat × Value)} {st : List Value} {own C : String} {cc : ByteArray} {ret9 : Option FieldType} {D : va_G} {Y : Nat → ClassId} {E : State → Prop} {T : u_T} {N ci index : Nat} (C0 : CX p l s m args meth c own cc nL ret9 D Y (fun q => s.heap.size ≤ q) E) (hin : ∀ w ∈ u_ws C T N, w ∈ TB) (ty : Nat → FieldType) (hty : ∀ k, k < N → parseFieldDescriptor (T k).2.2.1 = some (ty k)) (hcl : Cond.classLink own index C ∈ TB) (hinst : Cond.instantiable C N ∈ TB) (hini : Cond.initialized C ∈ TB) (hc : vwCl[ci]? = some (C, T, N)) {fs : List Value} (hfs : ∀ j, j < N → defaultValue (ty j) = vp_V fs j) (hcells : cells + 1 ≤ R.cells) (hslots : slots + N ≤ R.slots) (d : decode cc pc = .ok (.new index, 3))
    (kk : ∀ a, J p l e R s m args below meth c (fun q => s.heap.size ≤ q) nL Q (fun H' => ∃ t, s.heap.size ≤ t ∧ (∃ H, Ω H ∧ H.size = t ∧ ∀ q, q < t → H'[q]? = H[q]?) ∧ NW D (fun q => t ≤ q) (va_up (fun _ => none) 0 (some (a, .inr (ci, fs)))) H') (cells + 1) (slots + N) (pc + 3) L (.ref a :: st)) : J p l e R s m args below meth c (fun q => s.heap.size ≤ q) nL Q Ω cells slots pc L st := by
  intro H locs ls h1 h2 h3 h4
  refine va_forget (fun q hq => h2.2.2 q hq) ?_
  refine va_new (A := fun q => H.size ≤ q) (H0 := H) (ws := []) (locs := []) C0.1 C0.2.1 C0.2.2.2.2.1 hin ty hty C0.2.2.2.1 (C0.2.2.2.2.1 _ hcl) (C0.2.2.2.2.1 _ hinst) (C0.2.2.2.2.1 _ hini) C0.2.2.2.2.2.2.2.1.2.1 (fun k q h => by simp at h) ⟨fun i j p q h => by simp at h, fun k q h => by simp at h⟩ va_S.rf (fun _ h => h) hc hfs hcells hslots d (fun q H1 k1 k2 k3 => ?_)
  exact kk q H1 [] ls ⟨H.size, h2.1, ⟨H, h1, rfl, fun x hx => k3.2.1 x hx (Nat.not_le.mpr hx)⟩, [(q, .inr (ci, fs))], fun _ => 0, nk_one, k1, k2⟩ ⟨Nat.le_trans h2.1 k3.1, fun x y1 y2 => (k3.2.1 x (Nat.lt_of_lt_of_le y1 h2.1) (Nat.not_le.mpr (Nat.lt_of_lt_of_le y1 h2.1))).trans (h2.2.1 x y1 y2), fun q hq => by cases hq⟩ h3 h4
theorem NW_lt {D : va_G} {A : Nat → Prop} {c : Nat × va_E} {H : Heap} (h : NW D A (va_up (fun _ => none) 0 (some c)) H) : c.1 < H.size ∧ A c.1 := by
  obtain ⟨ws, pos, hn, hP, hD⟩ := h
  have e := hn.1 0 c (up_same _ _ _)
  exact ⟨vx_lt hP e, hD.2 _ _ e⟩
theorem j_lawret {p : Program} {l : Launch} {e : Env} {s : State} {m : MethodId} {below : List Frame} {meth : Method} {cd : Code} {Ω : Heap → Prop} {ret9 : Option FieldType} {D : va_G} {Y : Nat → ClassId} {E : State → Prop} {b cells slots pc : Nat} {L : List (Nat × Value)} (C0 : CX p l s m #[Value.ref b] meth cd RL cL_law 8 ret9 D Y (fun q => s.heap.size ≤ q) E) (hr : meth.sig.returnType = ret) (hc : cells ≤ 600104) (hs : slots ≤ 7301314) (d : decode cL_law pc = .ok (.ireturn, 1)) : J p l e room_1 s m #[Value.ref b] below meth cd (fun q => s.heap.size ≤ q) 8 (lw_Z below #[Value.ref b] s) Ω cells slots pc L [.int 1] := fun H locs ls h1 h2 h3 h4 => va_forget (fun q hq => h2.2.2 q hq) (W.widen hc hs (lw_ret C0.1 C0.2.1 hr C0.2.2.2.2.2.2.1 d))
theorem va_P_newI {D : va_G} {Y : Nat → ClassId} {a N : Nat} {H' : Heap} (h : H'[a]? = some (arrV (Y 0) N (fun _ => .int 0))) : va_P D vwCl [(a, .inl (Y 0, N, .inl (fun _ => 0)))] H' := by
  intro k q hk
  have hz : k < 1 := (List.getElem?_eq_some_iff.mp hk).1
  have h0 : k = 0 := by omega
  rw [h0] at hk
  have e : (a, (.inl (Y 0, N, .inl (fun _ => 0)) : va_E)) = q := Option.some.inj hk
  rw [← e]
  show H'[a]? = some (vp_cell (Y 0) _)
  rw [vp_cell_i]
  exact h
theorem RA_int {s : State} {cA : ClassId} (hY : va_RA s cA .int) : s.vm.findClass ("[" ++ FieldType.int.toString) = some cA := hY
theorem j_newA {p : Program} {l : Launch} {e : Env} {R : Room} {s : State} {m : MethodId} {args : Array Value} {below : List Frame} {meth : Method} {c : Code} {Q : State → Prop} {Ω : Heap → Prop} {cells slots pc nL : Nat} {L : List (Nat × Value)} {st : List Value} {own : String} {cc : ByteArray} {ret9 : Option FieldType} {D : va_G} {Y : Nat → ClassId} {A : Nat → Prop} {E : State → Prop} (C0 : CX p l s m args meth c own cc nL ret9 D Y A E) (harr : Cond.arrayClass .int ∈ TB) {n : Int32} {N : Nat} (n0 : ¬ n < 0) (n1 : n.toNatClampNeg = N) (n2 : N * componentBytes (newarray.typeOf .int) ≤ 536870912) (hcells : cells + 1 ≤ R.cells) (hslots : slots + N ≤ R.slots) (d : decode cc pc = .ok (.newarray .int, 2)) (kk : ∀ o, J p l e R s m args below meth c A nL Q (fun H' => ∃ H, Ω H ∧ H.size = o ∧ o < H'.size ∧ (∀ q, q < o → H'[q]? = H[q]?) ∧ A o ∧ va_P D vwCl [(o, .inl (Y 0, N, .inl (fun _ => 0)))] H') (cells + 1) (slots + N) (pc + 2) L (.ref o :: st)) : J p l e R s m args below meth c A nL Q Ω cells slots pc L (.int n :: st) := by
  intro H locs ls h1 h2 h3 h4
  have harr2 := C0.2.2.2.2.1 _ harr
  refine va_newaK (atype := .int) (N := N) (n := n) (h := H.size) C0.1 C0.2.1 harr2 rfl d rfl n0 n1 n2 hcells hslots rfl (fun H' cA e1 z1 o1 hAr hNm => ?_)
  have hY := RA_int (C0.2.2.2.2.2.2.2.1.2.1.2 0 (Y 0, .int) rfl).2
  have eY : cA = Y 0 := Option.some.inj (hNm.symm.trans hY)
  rw [eY] at e1
  have hA : A H.size := C0.2.2.2.2.2.2.2.1.1 _ h2.1
  have hlt : H.size < H'.size := by omega
  exact kk H.size H' locs ls ⟨H, h1, rfl, hlt, o1, hA, va_P_newI e1⟩ ⟨Nat.le_trans h2.1 (by omega), fun x y1 y2 => (o1 x (Nat.lt_of_lt_of_le y1 h2.1)).trans (h2.2.1 x y1 y2), h2.2.2⟩ h3 h4
def zcj : Nat → Nat → Int32
  | 0 => fun _ => 0
  | j + 1 => upd (zcj j) (8 + j) 60
theorem zL_init : zL 0 (fun _ => 0) G0X6 (fun _ => 0) (fun _ _ => 0) (zcj 6) (fun _ => 0) := by
  have h12 : ∀ j, j < 12 → G0X6 0 j = 50 := by decide
  have h6 : ∀ j, j < 6 → G0X6 2 j = 60 := by decide
  have hc : ∀ j, j < 6 → zcj 6 (8 + j) = 60 := by decide
  have e50 : (50 : Int32).toInt = 50 := by decide
  have e60 : (60 : Int32).toInt = 60 := by decide
  refine ⟨zJ.of zI_init (by decide) rfl, ⟨by decide, rfl, fun j k hj => absurd hj (Nat.not_lt_zero _), ⟨fun j hj => ?_, fun k hk => ?_⟩, fun x _ => ?_, fun s hs => absurd hs (Nat.not_lt_zero _)⟩, ⟨by decide, by decide, by decide, by decide, fun k hk => (hc k hk).trans (h6 k hk).symm, fun k hk => absurd hk (Nat.not_lt_zero _), fun k _ _ => rfl⟩⟩
  · rw [h12 j hj, e50]; omega
  · rw [h6 k hk, e60]; omega
  · show -40 ≤ (0 : Int32).toInt ∧ (0 : Int32).toInt ≤ 40
    rw [Int32.toInt_zero]; omega
set_option maxRecDepth 100000 in
set_option maxHeartbeats 4000000 in
theorem law_18 {p : Program} {l : Launch} {e : Env} {s : State} {m : MethodId} {below : List Frame} {meth : Method} {c : Code} (hsl : l.stackTraces = false) {D : va_G} {Y : Nat → ClassId} {tE mi ac ap b Ls : Nat} {xs : Nat → Int32} {ad : Nat → Nat} (hr : meth.sig.returnType = ret) (hLs : Ls ≤ 260) (C0 : CX p l s m #[Value.ref b] meth c RL cL_law 8 ret D Y (fun q => s.heap.size ≤ q) (ES (fun q => s.heap.size ≤ q) tE mi b Ls xs)) : J p l e room_1 s m #[Value.ref b] below meth c (fun q => s.heap.size ≤ q) 8 (lw_Z below #[Value.ref b] s) (LV D Y s.heap.size tE ac ap ad (fun _ => 0) G0X6 (fun _ => 0) (fun _ _ => 0) (zcj 0) (fun _ => 0)) 15 3229 18 [(0, .ref b), (1, .ref (ad 0)), (2, .ref ac), (3, .ref ap)] [] := by
  obtain ⟨-, hX, hbl, hbA⟩ := C0.2.2.2.2.2.2.2.1.2.2.1
  refine j_iconst C0 (v := 0) dL_law_18 (by decide) ?_
  refine j_istore C0 (L' := [(0, .ref (b)), (1, .ref (ad 0)), (2, .ref (ac)), (3, .ref (ap)), (4, .int ((0 : Int32)))]) dL_law_19 (by decide) rfl ?_
  refine j_widen (k := 15) (n := 3229) (by omega) (by omega) ?_
  refine j_castL (L' := [(0, .ref (b)), (1, .ref (ad 0)), (2, .ref (ac)), (3, .ref (ap)), (4, .int (nI 0))]) (rfl) ?_
  refine l_loop (P := fun (jj : Nat) => J p l e room_1 s m #[Value.ref b] below meth c (fun q => s.heap.size ≤ q) 8 _ (LV D Y s.heap.size tE ac ap ad (fun _ => 0) G0X6 (fun _ => 0) (fun _ _ => 0) (zcj jj) (fun _ => 0)) (15) (3229) 21 [(0, .ref (b)), (1, .ref (ad 0)), (2, .ref (ac)), (3, .ref (ap)), (4, .int (nI jj))] []) 6 ?_ (fun jj hjj K21 => ?_)
  rotate_left
  ·
    show J p l e room_1 s m #[Value.ref b] below meth c (fun q => s.heap.size ≤ q) 8 _ (LV D Y s.heap.size tE ac ap ad (fun _ => 0) G0X6 (fun _ => 0) (fun _ _ => 0) (zcj jj) (fun _ => 0)) (15) (3229) 21 [(0, .ref (b)), (1, .ref (ad 0)), (2, .ref (ac)), (3, .ref (ap)), (4, .int (nI jj))] []
    replace K21 : J p l e room_1 s m #[Value.ref b] below meth c (fun q => s.heap.size ≤ q) 8 _ (LV D Y s.heap.size tE ac ap ad (fun _ => 0) G0X6 (fun _ => 0) (fun _ _ => 0) (zcj (jj + 1)) (fun _ => 0)) (15) (3229) 21 [(0, .ref (b)), (1, .ref (ad 0)), (2, .ref (ac)), (3, .ref (ap)), (4, .int (nI (jj + 1)))] [] := K21
    refine j_iload C0 dL_law_21 rfl ?_
    refine j_bipush C0 (v := 6) dL_law_23 (by decide) ?_
    refine j_icmp_ge C0 43 dL_law_25 (by decide) (fun z9 => absurd z9 (nI_ge (by omega) (by decide))) (fun _ => ?_)
    refine j_aload_n C0 dL_law_28 rfl ?_
    refine j_bipush C0 (v := 8) dL_law_29 (by decide) ?_
    refine j_iload C0 dL_law_31 rfl ?_
    refine j_iadd C0 dL_law_33 ?_
    refine j_top (nI (8 + jj)) (nI_add 8 jj) ?_
    refine j_bipush C0 (v := 60) dL_law_34 (by decide) ?_
    refine l_stcN C0 (i := 8 + jj) (by omega) dL_law_36 ?_
    refine j_iinc C0 (v := nI (jj + 1)) (L' := [(0, .ref (b)), (1, .ref (ad 0)), (2, .ref (ac)), (3, .ref (ap)), (4, .int (nI (jj + 1)))]) dL_law_37 rfl (nI_inc jj) (by decide) rfl ?_
    refine j_goto C0 21 dL_law_40 (by decide) ?_
    refine j_widen (k := 15) (n := 3229) (by omega) (by omega) ?_
    exact K21
  ·
    show J p l e room_1 s m #[Value.ref b] below meth c (fun q => s.heap.size ≤ q) 8 _ (LV D Y s.heap.size tE ac ap ad (fun _ => 0) G0X6 (fun _ => 0) (fun _ _ => 0) (zcj 6) (fun _ => 0)) (15) (3229) 21 [(0, .ref (b)), (1, .ref (ad 0)), (2, .ref (ac)), (3, .ref (ap)), (4, .int (nI 6))] []
    refine j_iload C0 dL_law_21 rfl ?_
    refine j_bipush C0 (v := 6) dL_law_23 (by decide) ?_
    refine j_icmp_ge C0 43 dL_law_25 (by decide) (fun _ => ?_) (fun z9 => absurd (nI_le (Nat.le_refl _) (by decide)) z9)
    refine j_aload_n C0 dL_law_43 rfl ?_
    refine j_iconst C0 (v := 0) dL_law_44 (by decide) ?_
    refine j_callVv C0 (km_E (fun U h => h.1) (EC.closed _ _ _) (lv_kx (z := s.heap.size) (ac := ac) (ap := ap) (cf := (zcj 6)) (pf := (fun _ => 0)) (zv_depth (F := (fun _ => 0)) (G := G0X6) (N := (fun _ => 0)) (Q := (fun _ _ => 0)) (h := 0) (by omega)).1 ((zv_depth (F := (fun _ => 0)) (G := G0X6) (N := (fun _ => 0)) (Q := (fun _ _ => 0)) (h := 0) (by omega)).2.trans (show G0X6 0 (0 % 12) + G0X6 1 0 = 50 by decide)) (k_X6_depth hsl (A := AC s.heap.size ac ap) (E := EC (AC s.heap.size ac ap) tE mi) (fun U h => h) ad (fun _ => 0) G0X6 (fun _ => 0) (fun _ _ => 0) ((0 : Int32)) ))) mv_X6_depth wm_L_23 (lv_recv C0) rfl rfl ⟨Nat.le_of_ble_eq_true rfl, Nat.le_of_ble_eq_true rfl⟩ (Nat.le_of_ble_eq_true rfl) ⟨by show _ ≤ (600104 : Nat); omega, by show _ ≤ (7301314 : Nat); omega⟩ dL_law_45 ?_
    refine j_bipush C0 (v := 50) dL_law_48 (by decide) ?_
    refine j_icmp_ne C0 98 dL_law_50 (by decide) (fun z9 => absurd (by decide) z9) (fun _ => ?_)
    refine j_aload_n C0 dL_law_53 rfl ?_
    refine j_sipush C0 (v := 3100) dL_law_54 (by decide) ?_
    refine j_callVv C0 (km_E (fun U h => h.1) (EC.closed _ _ _) (lv_kx (z := s.heap.size) (ac := ac) (ap := ap) (cf := (zcj 6)) (pf := (fun _ => 0)) (zv_depth (F := (fun _ => 0)) (G := G0X6) (N := (fun _ => 0)) (Q := (fun _ _ => 0)) (h := 3100) (by omega)).1 ((zv_depth (F := (fun _ => 0)) (G := G0X6) (N := (fun _ => 0)) (Q := (fun _ _ => 0)) (h := 3100) (by omega)).2.trans (show G0X6 0 (3100 % 12) + G0X6 1 3100 = 50 by decide)) (k_X6_depth hsl (A := AC s.heap.size ac ap) (E := EC (AC s.heap.size ac ap) tE mi) (fun U h => h) ad (fun _ => 0) G0X6 (fun _ => 0) (fun _ _ => 0) ((3100 : Int32)) ))) mv_X6_depth wm_L_23 (lv_recv C0) rfl rfl ⟨Nat.le_of_ble_eq_true rfl, Nat.le_of_ble_eq_true rfl⟩ (Nat.le_of_ble_eq_true rfl) ⟨by show _ ≤ (600104 : Nat); omega, by show _ ≤ (7301314 : Nat); omega⟩ dL_law_57 ?_
    refine j_bipush C0 (v := 50) dL_law_60 (by decide) ?_
    refine j_icmp_ne C0 98 dL_law_62 (by decide) (fun z9 => absurd (by decide) z9) (fun _ => ?_)
    refine j_aload_n C0 dL_law_65 rfl ?_
    refine j_callVv C0 (km_E (fun U h => h.1) (EC.closed _ _ _) (lv_kx (z := s.heap.size) (ac := ac) (ap := ap) (cf := (zcj 6)) (pf := (fun _ => 0)) rfl rfl (k_X6_moves hsl (A := AC s.heap.size ac ap) (E := EC (AC s.heap.size ac ap) tE mi) (fun U h => h) ad (fun _ => 0) G0X6 (fun _ => 0) (fun _ _ => 0)  ))) mv_X6_moves wm_L_29 (lv_recv C0) rfl rfl ⟨Nat.le_of_ble_eq_true rfl, Nat.le_of_ble_eq_true rfl⟩ (Nat.le_of_ble_eq_true rfl) ⟨by show _ ≤ (600104 : Nat); omega, by show _ ≤ (7301314 : Nat); omega⟩ dL_law_66 ?_
    refine j_if_ne C0 98 dL_law_69 (by decide) (fun z9 => absurd (by decide) z9) (fun _ => ?_)
    refine j_aload_n C0 dL_law_72 rfl ?_
    refine j_callVv C0 (km_E (fun U h => h.1) (EC.closed _ _ _) (lv_kx (z := s.heap.size) (ac := ac) (ap := ap) (cf := (zcj 6)) (pf := (fun _ => 0)) rfl rfl (k_X6_port hsl (A := AC s.heap.size ac ap) (E := EC (AC s.heap.size ac ap) tE mi) (fun U h => h) ad (fun _ => 0) G0X6 (fun _ => 0) (fun _ _ => 0)  ))) mv_X6_port wm_L_118 (lv_recv C0) rfl rfl ⟨Nat.le_of_ble_eq_true rfl, Nat.le_of_ble_eq_true rfl⟩ (Nat.le_of_ble_eq_true rfl) ⟨by show _ ≤ (600104 : Nat); omega, by show _ ≤ (7301314 : Nat); omega⟩ dL_law_73 ?_
    refine j_if_ne C0 98 dL_law_76 (by decide) (fun z9 => absurd (by decide) z9) (fun _ => ?_)
    refine j_aload_n C0 dL_law_79 rfl ?_
    refine j_iconst C0 (v := 5) dL_law_80 (by decide) ?_
    refine j_callVv C0 (km_E (fun U h => h.1) (EC.closed _ _ _) (lv_kx (z := s.heap.size) (ac := ac) (ap := ap) (cf := (zcj 6)) (pf := (fun _ => 0)) (zv_isReady (F := (fun _ => 0)) (G := G0X6) (N := (fun _ => 0)) (Q := (fun _ _ => 0)) (k := 5) (by decide)).1 ((zv_isReady (F := (fun _ => 0)) (G := G0X6) (N := (fun _ => 0)) (Q := (fun _ _ => 0)) (k := 5) (by decide)).2.trans ((z_pr0 (F := (fun _ => 0)) (G := G0X6) (N := (fun _ => 0)) (Q := (fun _ _ => 0)) (nI 5) (t := 0) (n := 0) (by decide) (by decide) ⟨fun j hj => absurd hj (Nat.not_lt_zero _), fun i j _ hj => absurd hj (Nat.not_lt_zero _)⟩).trans rfl)) (k_X6_isReady hsl (A := AC s.heap.size ac ap) (E := EC (AC s.heap.size ac ap) tE mi) (fun U h => h) ad (fun _ => 0) G0X6 (fun _ => 0) (fun _ _ => 0) ((5 : Int32)) ))) mv_X6_isReady wm_L_108 (lv_recv C0) rfl rfl ⟨Nat.le_of_ble_eq_true rfl, Nat.le_of_ble_eq_true rfl⟩ (Nat.le_of_ble_eq_true rfl) ⟨by show _ ≤ (600104 : Nat); omega, by show _ ≤ (7301314 : Nat); omega⟩ dL_law_81 ?_
    refine j_if_eq C0 98 dL_law_84 (by decide) (fun z9 => absurd z9 (by decide)) (fun _ => ?_)
    refine j_aload_n C0 dL_law_87 rfl ?_
    refine j_callSv (rest := []) C0 (km_E (fun U h => h.1) (EC.closed _ _ _) (k_L_isRota hsl (fun _ => 0) G0X6 (fun _ => 0) (fun _ _ => 0) (zcj 6) (fun _ => 0) zL_init.1.pm)) ms_L_isRota wm_L_57 rfl rfl ⟨Nat.le_of_ble_eq_true rfl, Nat.le_of_ble_eq_true rfl⟩ (Nat.le_of_ble_eq_true rfl) ⟨by show _ ≤ (600104 : Nat); omega, by show _ ≤ (7301314 : Nat); omega⟩ dL_law_88 ?_
    refine j_if_eq C0 98 dL_law_91 (by decide) (fun z9 => absurd z9 (by decide)) (fun _ => ?_)
    refine j_iconst C0 (v := 1) dL_law_94 (by decide) ?_
    refine j_goto C0 99 dL_law_95 (by decide) ?_
    refine j_istore C0 (L' := [(0, .ref (b)), (1, .ref (ad 0)), (2, .ref (ac)), (3, .ref (ap)), (4, .int ((1 : Int32)))]) dL_law_99 (by decide) rfl ?_
    refine j_aload_n C0 dL_law_101 rfl ?_
    refine j_slen C0 hX hbl hbA dL_law_102 ?_
    refine j_iconst C0 (v := 3) dL_law_103 (by decide) ?_
    refine j_idiv C0 dL_law_104 (by decide) ?_
    refine j_top (nI (Ls / 3)) (pk_div (a := Ls) (d := 3) (by omega) (by first | decide | omega) (by first | decide | omega)) ?_
    refine j_bipush C0 (v := 90) dL_law_105 (by decide) ?_
    refine j_icmp_le C0 115 dL_law_107 (by decide) (fun _ => ?_) (fun z9 => absurd (nI_le (b := 90) (by omega) (by decide)) z9)
    refine j_aload_n C0 dL_law_115 rfl ?_
    refine j_slen C0 hX hbl hbA dL_law_116 ?_
    refine j_iconst C0 (v := 3) dL_law_117 (by decide) ?_
    refine j_idiv C0 dL_law_118 (by decide) ?_
    refine j_top (nI (Ls / 3)) (pk_div (a := Ls) (d := 3) (by omega) (by first | decide | omega) (by first | decide | omega)) ?_
    refine j_istore C0 (L' := [(0, .ref (b)), (1, .ref (ad 0)), (2, .ref (ac)), (3, .ref (ap)), (4, .int ((1 : Int32))), (5, .int (nI (Ls / 3)))]) dL_law_119 (by decide) rfl ?_
    refine j_iconst C0 (v := 0) dL_law_121 (by decide) ?_
    refine j_istore C0 (L' := [(0, .ref (b)), (1, .ref (ad 0)), (2, .ref (ac)), (3, .ref (ap)), (4, .int ((1 : Int32))), (5, .int (nI (Ls / 3))), (6, .int ((0 : Int32)))]) dL_law_122 (by decide) rfl ?_
    refine j_world (Ω' := (LG D Y s.heap.size tE ac ap ad)) (lg_of zL_init) ?_
    refine j_widen (k := 100 + 4010 * 0) (n := 5000 + 33700 * 0) (by omega) (by omega) ?_
    refine j_castL (L' := [(0, .ref (b)), (1, .ref (ad 0)), (2, .ref (ac)), (3, .ref (ap)), (4, .int ((1 : Int32))), (5, .int (nI (Ls / 3))), (6, .int (nI 0))]) (rfl) ?_
    refine l_loop (P := fun (kk : Nat) => J p l e room_1 s m #[Value.ref b] below meth c (fun q => s.heap.size ≤ q) 8 _ (LG D Y s.heap.size tE ac ap ad) (100 + 4010 * kk) (5000 + 33700 * kk) 124 [(0, .ref (b)), (1, .ref (ad 0)), (2, .ref (ac)), (3, .ref (ap)), (4, .int ((1 : Int32))), (5, .int (nI (Ls / 3))), (6, .int (nI kk))] []) ((Ls / 3)) ?_ (fun kk hkk K124 => ?_)
    rotate_left
    ·
      show J p l e room_1 s m #[Value.ref b] below meth c (fun q => s.heap.size ≤ q) 8 _ (LG D Y s.heap.size tE ac ap ad) (100 + 4010 * kk) (5000 + 33700 * kk) 124 [(0, .ref (b)), (1, .ref (ad 0)), (2, .ref (ac)), (3, .ref (ap)), (4, .int ((1 : Int32))), (5, .int (nI (Ls / 3))), (6, .int (nI kk))] []
      replace K124 : J p l e room_1 s m #[Value.ref b] below meth c (fun q => s.heap.size ≤ q) 8 _ (LG D Y s.heap.size tE ac ap ad) (100 + 4010 * (kk + 1)) (5000 + 33700 * (kk + 1)) 124 [(0, .ref (b)), (1, .ref (ad 0)), (2, .ref (ac)), (3, .ref (ap)), (4, .int ((1 : Int32))), (5, .int (nI (Ls / 3))), (6, .int (nI (kk + 1)))] [] := K124
      obtain ⟨d0, hd0, e0⟩ := z_draw (xs (3 * kk))
      obtain ⟨d1, hd1, e1⟩ := z_draw (xs ((3 * kk) + 1))
      obtain ⟨d2, hd2, e2⟩ := z_draw (xs ((3 * kk) + 2))
      refine j_iload C0 dL_law_124 rfl ?_
      refine j_iload C0 dL_law_126 rfl ?_
      refine j_icmp_ge C0 211 dL_law_128 (by decide) (fun z9 => absurd z9 (nI_ge (by omega) (by omega))) (fun _ => ?_)
      refine j_iload C0 dL_law_131 rfl ?_
      refine j_if_eq C0 211 dL_law_133 (by decide) (fun z9 => absurd z9 (by decide)) (fun _ => ?_)
      refine j_aload_n C0 dL_law_136 rfl ?_
      refine j_iconst C0 (v := 3) dL_law_137 (by decide) ?_
      refine j_iload C0 dL_law_138 rfl ?_
      refine j_imul C0 dL_law_140 ?_
      refine j_top (nI (3 * kk)) (pk_mul 3 kk) ?_
      refine j_iconst C0 (v := 1) dL_law_141 (by decide) ?_
      refine j_iadd C0 dL_law_142 ?_
      refine j_top (nI ((3 * kk) + 1)) (nI_add (3 * kk) 1) ?_
      refine j_callSv (rest := []) C0 (k_L_draw hsl ((3 * kk) + 1) d1 (by omega) hLs e1) ms_L_draw wm_L_131 rfl rfl ⟨Nat.le_of_ble_eq_true rfl, Nat.le_of_ble_eq_true rfl⟩ (Nat.le_of_ble_eq_true rfl) ⟨by show _ ≤ (600104 : Nat); omega, by show _ ≤ (7301314 : Nat); omega⟩ dL_law_143 ?_
      refine j_istore C0 (L' := [(0, .ref (b)), (1, .ref (ad 0)), (2, .ref (ac)), (3, .ref (ap)), (4, .int ((1 : Int32))), (5, .int (nI (Ls / 3))), (6, .int (nI kk)), (7, .int (nI d1))]) dL_law_146 (by decide) rfl ?_
      refine j_aload_n C0 dL_law_148 rfl ?_
      refine j_aload_n C0 dL_law_149 rfl ?_
      refine j_aload_n C0 dL_law_150 rfl ?_
      refine j_aload_n C0 dL_law_151 rfl ?_
      refine j_iconst C0 (v := 3) dL_law_152 (by decide) ?_
      refine j_iload C0 dL_law_153 rfl ?_
      refine j_imul C0 dL_law_155 ?_
      refine j_top (nI (3 * kk)) (pk_mul 3 kk) ?_
      refine j_callSv (rest := [.ref (ap), .ref (ac), .ref (ad 0)]) C0 (k_L_draw hsl (3 * kk) d0 (by omega) hLs e0) ms_L_draw wm_L_131 rfl rfl ⟨Nat.le_of_ble_eq_true rfl, Nat.le_of_ble_eq_true rfl⟩ (Nat.le_of_ble_eq_true rfl) ⟨by show _ ≤ (600104 : Nat); omega, by show _ ≤ (7301314 : Nat); omega⟩ dL_law_156 ?_
      refine j_iload C0 dL_law_159 rfl ?_
      refine j_aload_n C0 dL_law_161 rfl ?_
      refine j_iconst C0 (v := 3) dL_law_162 (by decide) ?_
      refine j_iload C0 dL_law_163 rfl ?_
      refine j_imul C0 dL_law_165 ?_
      refine j_top (nI (3 * kk)) (pk_mul 3 kk) ?_
      refine j_iconst C0 (v := 2) dL_law_166 (by decide) ?_
      refine j_iadd C0 dL_law_167 ?_
      refine j_top (nI ((3 * kk) + 2)) (nI_add (3 * kk) 2) ?_
      refine j_callSv (rest := [.int (nI d1), .int (nI d0), .ref (ap), .ref (ac), .ref (ad 0)]) C0 (k_L_draw hsl ((3 * kk) + 2) d2 (by omega) hLs e2) ms_L_draw wm_L_131 rfl rfl ⟨Nat.le_of_ble_eq_true rfl, Nat.le_of_ble_eq_true rfl⟩ (Nat.le_of_ble_eq_true rfl) ⟨by show _ ≤ (600104 : Nat); omega, by show _ ≤ (7301314 : Nat); omega⟩ dL_law_168 ?_
      refine j_callSv (rest := []) C0 (km_E (fun U h => h.1) (EC.closed _ _ _) (k_L_step hsl d0 d1 d2 hd0 hd1 hd2)) ms_L_step wm_L_135 rfl rfl ⟨Nat.le_of_ble_eq_true rfl, Nat.le_of_ble_eq_true rfl⟩ (Nat.le_of_ble_eq_true rfl) ⟨by show _ ≤ (600104 : Nat); omega, by show _ ≤ (7301314 : Nat); omega⟩ dL_law_171 ?_
      refine j_if_eq C0 202 dL_law_174 (by decide) (fun z9 => absurd z9 (by decide)) (fun _ => ?_)
      refine j_iload C0 dL_law_177 rfl ?_
      refine j_iconst C0 (v := 3) dL_law_179 (by decide) ?_
      refine j_irem C0 dL_law_180 (by decide) ?_
      refine j_top (nI (kk % 3)) (pk_rem (a := kk) (d := 3) (by omega) (by first | decide | omega) (by first | decide | omega)) ?_
      refine j_if_gt C0 198 dL_law_181 (by decide) (fun (q1 : 0 < nI (kk % 3)) => ?_) (fun (q1 : ¬ (0 < nI (kk % 3))) => ?_)
      ·
        refine j_iconst C0 (v := 1) dL_law_198 (by decide) ?_
        refine j_goto C0 203 dL_law_199 (by decide) ?_
        refine j_istore C0 (L' := [(0, .ref (b)), (1, .ref (ad 0)), (2, .ref (ac)), (3, .ref (ap)), (4, .int ((1 : Int32))), (5, .int (nI (Ls / 3))), (6, .int (nI kk)), (7, .int (nI d1))]) dL_law_203 (by decide) rfl ?_
        refine j_iinc C0 (v := nI (kk + 1)) (L' := [(0, .ref (b)), (1, .ref (ad 0)), (2, .ref (ac)), (3, .ref (ap)), (4, .int ((1 : Int32))), (5, .int (nI (Ls / 3))), (6, .int (nI (kk + 1))), (7, .int (nI d1))]) dL_law_205 rfl (nI_inc kk) (by decide) rfl ?_
        refine j_goto C0 124 dL_law_208 (by decide) ?_
        refine j_widen (k := 100 + 4010 * (kk + 1)) (n := 5000 + 33700 * (kk + 1)) (by omega) (by omega) ?_
        refine j_locals (L' := [(0, .ref (b)), (1, .ref (ad 0)), (2, .ref (ac)), (3, .ref (ap)), (4, .int ((1 : Int32))), (5, .int (nI (Ls / 3))), (6, .int (nI (kk + 1)))]) (fun q hq => by simp only [List.mem_cons, List.mem_nil_iff, or_false] at hq ⊢; rcases hq with rfl | rfl | rfl | rfl | rfl | rfl | rfl <;> simp) (lok_of rfl rfl) ?_
        exact K124
      ·
        refine j_aload_n C0 dL_law_184 rfl ?_
        refine j_aload_n C0 dL_law_185 rfl ?_
        refine j_aload_n C0 dL_law_186 rfl ?_
        refine j_iload C0 dL_law_187 rfl ?_
        refine j_bipush C0 (v := 7) dL_law_189 (by decide) ?_
        refine j_idiv C0 dL_law_191 (by decide) ?_
        refine j_top (nI (d1 / 7)) (pk_div (a := d1) (d := 7) (by omega) (by first | decide | omega) (by first | decide | omega)) ?_
        refine j_callSv (rest := []) C0 (km_E (fun U h => h.1) (EC.closed _ _ _) (km_lg (fun t F G N Q cf pf hL => k_L_isPort hsl F G N Q cf pf hL (d1 / 7) (by omega)))) ms_L_isPort wm_L_139 rfl rfl ⟨Nat.le_of_ble_eq_true rfl, Nat.le_of_ble_eq_true rfl⟩ (Nat.le_of_ble_eq_true rfl) ⟨by show _ ≤ (600104 : Nat); omega, by show _ ≤ (7301314 : Nat); omega⟩ dL_law_192 ?_
        refine j_if_eq C0 202 dL_law_195 (by decide) (fun z9 => absurd z9 (by decide)) (fun _ => ?_)
        refine j_iconst C0 (v := 1) dL_law_198 (by decide) ?_
        refine j_goto C0 203 dL_law_199 (by decide) ?_
        refine j_istore C0 (L' := [(0, .ref (b)), (1, .ref (ad 0)), (2, .ref (ac)), (3, .ref (ap)), (4, .int ((1 : Int32))), (5, .int (nI (Ls / 3))), (6, .int (nI kk)), (7, .int (nI d1))]) dL_law_203 (by decide) rfl ?_
        refine j_iinc C0 (v := nI (kk + 1)) (L' := [(0, .ref (b)), (1, .ref (ad 0)), (2, .ref (ac)), (3, .ref (ap)), (4, .int ((1 : Int32))), (5, .int (nI (Ls / 3))), (6, .int (nI (kk + 1))), (7, .int (nI d1))]) dL_law_205 rfl (nI_inc kk) (by decide) rfl ?_
        refine j_goto C0 124 dL_law_208 (by decide) ?_
        refine j_widen (k := 100 + 4010 * (kk + 1)) (n := 5000 + 33700 * (kk + 1)) (by omega) (by omega) ?_
        refine j_locals (L' := [(0, .ref (b)), (1, .ref (ad 0)), (2, .ref (ac)), (3, .ref (ap)), (4, .int ((1 : Int32))), (5, .int (nI (Ls / 3))), (6, .int (nI (kk + 1)))]) (fun q hq => by simp only [List.mem_cons, List.mem_nil_iff, or_false] at hq ⊢; rcases hq with rfl | rfl | rfl | rfl | rfl | rfl | rfl <;> simp) (lok_of rfl rfl) ?_
        exact K124
    ·
      show J p l e room_1 s m #[Value.ref b] below meth c (fun q => s.heap.size ≤ q) 8 _ (LG D Y s.heap.size tE ac ap ad) (100 + 4010 * ((Ls / 3))) (5000 + 33700 * ((Ls / 3))) 124 [(0, .ref (b)), (1, .ref (ad 0)), (2, .ref (ac)), (3, .ref (ap)), (4, .int ((1 : Int32))), (5, .int (nI (Ls / 3))), (6, .int (nI ((Ls / 3))))] []
      refine j_iload C0 dL_law_124 rfl ?_
      refine j_iload C0 dL_law_126 rfl ?_
      refine j_icmp_ge C0 211 dL_law_128 (by decide) (fun _ => ?_) (fun z9 => absurd (nI_le (Nat.le_refl _) (by omega)) z9)
      refine j_iload C0 dL_law_211 rfl ?_
      refine j_if_eq C0 230 dL_law_213 (by decide) (fun z9 => absurd z9 (by decide)) (fun _ => ?_)
      refine j_aload_n C0 dL_law_216 rfl ?_
      refine j_aload_n C0 dL_law_217 rfl ?_
      refine j_aload_n C0 dL_law_218 rfl ?_
      refine j_iconst C0 (v := 0) dL_law_219 (by decide) ?_
      refine j_callSv (rest := []) C0 (km_E (fun U h => h.1) (EC.closed _ _ _) (km_lg (fun t F G N Q cf pf hL => k_L_isPort hsl F G N Q cf pf hL (0) (by decide)))) ms_L_isPort wm_L_139 rfl rfl ⟨Nat.le_of_ble_eq_true rfl, Nat.le_of_ble_eq_true rfl⟩ (Nat.le_of_ble_eq_true rfl) ⟨by show _ ≤ (600104 : Nat); omega, by show _ ≤ (7301314 : Nat); omega⟩ dL_law_220 ?_
      refine j_if_eq C0 230 dL_law_223 (by decide) (fun z9 => absurd z9 (by decide)) (fun _ => ?_)
      refine j_iconst C0 (v := 1) dL_law_226 (by decide) ?_
      refine j_goto C0 231 dL_law_227 (by decide) ?_
      exact j_lawret C0 hr (by omega) (by omega) dL_law_231
theorem whole_start {p : Program} {e : Env} {s : State} {m : MethodId} {below : List Frame} {meth : Method} {c : Code} (l : Launch) (hflags : l.flags = flags0) {b L : Nat} {xs : Nat → Int32} (hL : L ≤ 260) (C0 : lw_At p s m meth c b L xs) : W p l e room_1 s m #[Value.ref b] below meth c s.heap [] 0 0 (lw_Z below #[Value.ref b] s) (entryFrame m ([Value.ref b] : List Value).toArray 8) := by
  obtain ⟨hx, hb, hr, hml, hown, hts, hX, hbl, hlocks, hgv⟩ := id C0
  obtain ⟨D, Y, tE, mi, hK, hE⟩ := lw_stat hts hgv
  have hsl : l.stackTraces = false := by
    unfold Launch.stackTraces
    rw [hflags]
    decide
  have CL : CX p l s m #[Value.ref b] meth c RL cL_law 8 ret D Y (fun q => s.heap.size ≤ q) (ES (fun q => s.heap.size ≤ q) tE mi b L xs) := ⟨hx, hb, hml, hown, fun w hw => hts w (List.mem_filter.mp hw).1, hr, hlocks, ⟨fun q h => h, hK, ⟨hE, hX, hbl, Nat.not_le.mpr hbl⟩, ES.closed _ tE mi b L xs⟩, hsl⟩
  have hl := lv_entry ([.ref b]) (n := 8) (Nat.le_of_ble_eq_true rfl)
  have hJ : J p l e room_1 s m #[Value.ref b] below meth c (fun q => s.heap.size ≤ q) 8 (lw_Z below #[Value.ref b] s) (fun _ => True) 0 0 0 [(0, .ref b)] [] := by
    refine j_newM CL in_X6 tyX6 tyX6_ok wc_L_24 (TB_in (tb1 (List.mem_of_getElem? (i := 24) rfl)) rfl) (TB_in (tb1 (List.mem_of_getElem? (i := 1) rfl)) rfl) (ci := 9) rfl (fs := [.null, .null, .null, .null, .null, .int 0, .int 0, .int 0]) (fun j hj => by rcases j with _ | _ | _ | _ | _ | _ | _ | _ | j <;> first | rfl | omega) (Nat.le_of_ble_eq_true rfl) (Nat.le_of_ble_eq_true rfl) dL_law_0 (fun a6 => ?_)
    refine j_dup CL dL_law_3 rfl ?_
    refine j_world (Ω' := NW D (fun q => s.heap.size ≤ q) (va_up (fun _ => none) 0 (some (a6, .inr (9, [.null, .null, .null, .null, .null, .int 0, .int 0, .int 0]))))) (fun H h => ?_) ?_
    · obtain ⟨t, h1, -, h3⟩ := h
      exact h3.re (fun q _ z => Nat.le_trans h1 z)
    refine j_callIE CL (As := []) (rest := [.ref a6]) (k_X6_init hsl (A := (fun q => s.heap.size ≤ q)) (E := ES (fun q => s.heap.size ≤ q) tE mi b L xs) (fun U h => h.1)) mi_X6_init wm_L_130 rfl rfl ⟨(Nat.le_of_ble_eq_true rfl), (Nat.le_of_ble_eq_true rfl)⟩ (Nat.le_of_ble_eq_true rfl) ⟨(Nat.le_of_ble_eq_true rfl), (Nat.le_of_ble_eq_true rfl)⟩ dL_law_4 (fun rv => j_and (fun hrv => j_ex (fun c6 => j_and (fun h6 => ?_))))
    rw [hrv, ← h6]
    refine j_astore_n CL dL_law_7 (Nat.le_of_ble_eq_true rfl) rfl ?_
    refine j_world (Ω' := CA D Y (fun q => s.heap.size ≤ q) tE c6 (fun _ => 0) G0X6 (fun _ => 0) (fun _ _ => 0)) (fun H h => ⟨fun _ => 0, fun _ => 0, h⟩) ?_
    refine j_bipush CL dL_law_8 (v := 14) (by decide) ?_
    refine j_newA CL w_arI (N := 14) (by decide) (by decide) (Nat.le_of_ble_eq_true rfl) (Nat.le_of_ble_eq_true rfl) (Nat.le_of_ble_eq_true rfl) dL_law_10 (fun ac => ?_)
    refine j_astore_n CL dL_law_12 (Nat.le_of_ble_eq_true rfl) rfl ?_
    refine j_bipush CL dL_law_13 (v := 60) (by decide) ?_
    refine j_newA CL w_arI (N := 60) (by decide) (by decide) (Nat.le_of_ble_eq_true rfl) (Nat.le_of_ble_eq_true rfl) (Nat.le_of_ble_eq_true rfl) dL_law_15 (fun ap => ?_)
    refine j_astore_n CL dL_law_17 (Nat.le_of_ble_eq_true rfl) rfl ?_
    refine j_world (Ω' := LV D Y s.heap.size tE ac ap c6 (fun _ => 0) G0X6 (fun _ => 0) (fun _ _ => 0) (zcj 0) (fun _ => 0)) (fun H h => ?_) ?_
    · obtain ⟨H1, ⟨H0, h0, z0, l0, k0, a0, p0⟩, z1, l1, k1, a1, p1⟩ := h
      have lt : ac < ap := by rw [← z1]; exact l0
      have q0 : H[ac]? = H1[ac]? := k1 ac lt
      have hP0 := p0.kept (H1 := H) (fun k q hk => by
        match k, hk with
        | 0, hk => cases hk; exact q0
        | k + 1, hk => cases hk)
      refine ⟨(h0.re (A' := AC s.heap.size ac ap) (fun q y1 y2 => ⟨⟨y2, by omega⟩, by omega⟩)).keep (fun q y1 y2 => (k1 q (by omega)).trans (k0 q (by omega))), fun k q hk => ?_, fun i j p9 q9 hi hj e9 => ?_, fun k q hk => ?_⟩
      · match k, hk with
        | 0, hk => cases hk; exact hP0 0 _ rfl
        | 1, hk => cases hk; exact p1 0 _ rfl
        | k + 2, hk => cases hk
      · match i, j, hi, hj with
        | 0, 0, hi, hj => rfl
        | 1, 1, hi, hj => rfl
        | 0, 1, hi, hj => cases hi; cases hj; exact absurd e9 (Nat.ne_of_lt lt)
        | 1, 0, hi, hj => cases hi; cases hj; exact absurd e9.symm (Nat.ne_of_lt lt)
        | i + 2, j, hi, hj => cases hi
        | 0, j + 2, hi, hj => cases hj
        | 1, j + 2, hi, hj => cases hj
      · match k, hk with
        | 0, hk => cases hk; exact a0
        | 1, hk => cases hk; exact a1
        | k + 2, hk => cases hk
    exact law_18 hsl hr hL CL
  rw [lg_entry_eq]
  exact hJ s.heap [] _ trivial va_S.rf hl (lok_of rfl rfl)
end
