section
theorem NW.re {D : va_G} {A A' : Nat → Prop} {cel : NMs} {H : Heap} (h : NW D A cel H) (hA : ∀ q : Nat, q < H.size → A q → A' q) : NW D A' cel H := by
  obtain ⟨ws, pos, h1, hP, hD⟩ := h
  exact ⟨ws, pos, h1, hP, hD.1, fun k q hk => hA _ (vx_lt hP hk) (hD.2 k q hk)⟩
theorem NW.keep {D : va_G} {A : Nat → Prop} {cel : NMs} {H H' : Heap} (h : NW D A cel H) (hq : ∀ q : Nat, q < H.size → A q → H'[q]? = H[q]?) : NW D A cel H' := by
  obtain ⟨ws, pos, h1, hP, hD⟩ := h
  exact ⟨ws, pos, h1, hP.kept (fun k q hk => hq _ (vx_lt hP hk) (hD.2 k q hk)), hD⟩
theorem CA.re {D : va_G} {Y : Nat → ClassId} {A A' : Nat → Prop} {tE : Nat} {ad : Nat → Nat} {F : Nat → Int32} {G : Nat → Nat → Int32} {N : Nat → Nat} {Q : Nat → Nat → Nat} {H : Heap} (h : CA D Y A tE ad F G N Q H) (hA : ∀ q : Nat, q < H.size → A q → A' q) : CA D Y A' tE ad F G N Q H := by
  obtain ⟨sa, ma, cel, h1, h2⟩ := h
  exact ⟨sa, ma, cel, h1, h2.re hA⟩
theorem CA.keep {D : va_G} {Y : Nat → ClassId} {A : Nat → Prop} {tE : Nat} {ad : Nat → Nat} {F : Nat → Int32} {G : Nat → Nat → Int32} {N : Nat → Nat} {Q : Nat → Nat → Nat} {H H' : Heap} (h : CA D Y A tE ad F G N Q H) (hq : ∀ q : Nat, q < H.size → A q → H'[q]? = H[q]?) : CA D Y A tE ad F G N Q H' := by
  obtain ⟨sa, ma, cel, h1, h2⟩ := h
  exact ⟨sa, ma, cel, h1, h2.keep hq⟩
def rL (ad : Nat → Nat) : List Nat := [ad 0, ad 2, ad 3, ad 4, ad 6, ad 7, ad 8, ad 9, ad 10, ad 11, ad 12, ad 13, ad 14, ad 15, ad 16, ad 17, ad 21, ad 22, ad 23, ad 24, ad 25]
theorem OR_mem {Y : Nat → ClassId} {ad : Nat → Nat} {f0 f1 f5 f18 f19 f20 : Int32} {g2 g3 g4 g6 g7 g8 g9 g10 g11 g12 g13 g14 g15 g16 g17 g21 g22 g23 g24 g25 : Nat → Int32} {k : Nat} {q : Nat × va_E} (h : (wsR Y ad f0 f1 f5 f18 f19 f20 g2 g3 g4 g6 g7 g8 g9 g10 g11 g12 g13 g14 g15 g16 g17 g21 g22 g23 g24 g25)[k]? = some q) : q.1 ∈ rL ad :=
  show q.1 ∈ (wsR Y ad f0 f1 f5 f18 f19 f20 g2 g3 g4 g6 g7 g8 g9 g10 g11 g12 g13 g14 g15 g16 g17 g21 g22 g23 g24 g25).map Prod.fst from List.mem_map_of_mem (List.mem_of_getElem? h)
theorem OR_of {Y : Nat → ClassId} {ad : Nat → Nat} {f0 f1 f5 f18 f19 f20 : Int32} {g2 g3 g4 g6 g7 g8 g9 g10 g11 g12 g13 g14 g15 g16 g17 g21 g22 g23 g24 g25 : Nat → Int32} {x : Nat} (h : x ∈ rL ad) : ∃ (k : Nat) (q : Nat × va_E), (wsR Y ad f0 f1 f5 f18 f19 f20 g2 g3 g4 g6 g7 g8 g9 g10 g11 g12 g13 g14 g15 g16 g17 g21 g22 g23 g24 g25)[k]? = some q ∧ q.1 = x := by
  have h2 : x ∈ (wsR Y ad f0 f1 f5 f18 f19 f20 g2 g3 g4 g6 g7 g8 g9 g10 g11 g12 g13 g14 g15 g16 g17 g21 g22 g23 g24 g25).map Prod.fst := h
  obtain ⟨q, hq, e⟩ := List.mem_map.mp h2
  obtain ⟨k, hk⟩ := List.getElem?_of_mem hq
  exact ⟨k, q, hk, e⟩
section
variable {D : va_G} {Y : Nat → ClassId} {A A' : Nat → Prop} {ad : Nat → Nat} {F : Nat → Int32} {G : Nat → Nat → Int32} {H H' : Heap}
theorem OR.lt (h : OR D Y A ad F G H) : ∀ q, q ∈ rL ad → q < H.size := fun x hx => by
  obtain ⟨k, q, hk, e⟩ := OR_of hx
  rw [← e]; exact vx_lt h.1 hk
theorem OR.inA (h : OR D Y A ad F G H) : ∀ q, q ∈ rL ad → A q := fun x hx => by
  obtain ⟨k, q, hk, e⟩ := OR_of hx
  rw [← e]; exact h.2.2 k q hk
theorem OR.re (h : OR D Y A ad F G H) (hA : ∀ q, q ∈ rL ad → A' q) : OR D Y A' ad F G H := ⟨h.1, h.2.1, fun k q hk => hA _ (OR_mem hk)⟩
theorem OR.keep (h : OR D Y A ad F G H) (hq : ∀ q, q ∈ rL ad → H'[q]? = H[q]?) : OR D Y A ad F G H' := ⟨h.1.kept (fun k q hk => hq _ (OR_mem hk)), h.2⟩
end
section
variable {l : Launch} {y : MethodName} {bytes : ByteArray} {mL : Nat} {rt : Option FieldType} {D : va_G} {Y : Nat → ClassId} {A A' : Nat → Prop} {E E' : State → Prop} {fr lo mc ms k : Nat} {av : List Value} {Ω Ω' Ψ Ψ' : Heap → Prop} {rv : Option Value}
theorem va_F.sub {s t : State} (h : va_F A' s t) (hA : ∀ q, A' q → A q) : va_F A s t := ⟨h.1, fun q h1 h2 => h.2 q h1 (fun z => h2 (hA q z))⟩
theorem WS.sub {U : State} (h : WS D Y A E U) (hE : ∀ U, E U → E' U) (hC : hbC A' E') (hf : ∀ q, U.heap.size ≤ q → A q → A' q) : WS D Y A' E' U := ⟨fun q hq => hf q hq (h.1 q hq), h.2.1, hE _ h.2.2.1, hC⟩
/-- a contract over fewer cells, in a larger world -/
theorem XM.sub (h : XM l y bytes mL rt D Y A' E' fr lo mc ms av Ω rv k Ω') (hA : ∀ q, A' q → A q) (hE : ∀ U, E U → E' U) (hC : hbC A' E') (hf : ∀ H, Ψ H → Ω H ∧ ∀ q, H.size ≤ q → A q → A' q) (hk : ∀ H H' : Heap, Ψ H → Ω' H' → H.size ≤ H'.size → (∀ q, q < H.size → ¬ A' q → H'[q]? = H[q]?) → Ψ' H') : XM l y bytes mL rt D Y A E fr lo mc ms av Ψ rv k Ψ' := by
  intro p e ha hc hk9 s m args below hfr happ hP hK
  obtain ⟨hv, hW, hΨ⟩ := hP
  obtain ⟨n, o, h1, h2, h3, h4⟩ := h p e ha hc hk9 s m args below hfr happ ⟨hv, hW.sub hE hC (hf _ hΨ).2, (hf _ hΨ).1⟩ hK
  refine ⟨n, o, h1, h2, h3, ?_⟩
  rcases h4 with ⟨⟨k0, k1, k2, k3⟩, L, hL, hb⟩ | ⟨q, hq, E9, ce, L, ⟨k0, k1, k2, k3⟩, hT⟩
  · exact Or.inl ⟨⟨k0, k1, hk _ _ hΨ k2 k3.1 k3.2, k3.sub hA⟩, L, hL, fun z hz => hA _ (hb z hz)⟩
  · obtain ⟨t1, t2, t3, t4, t5, t6⟩ := hT
    exact Or.inr ⟨q, hq, E9, ce, L, ⟨k0, k1, hk _ _ hΨ k2 k3.1 k3.2, k3.sub hA⟩, t1, t2, t3, t4, t5, fun z hz => hA _ (t6 z hz)⟩
/-- a contract that returns, of a method with an exception table -/
def KMW (l : Launch) (y : MethodName) (bytes : ByteArray) (hh : List (Nat × Nat × Nat × Nat)) (mL : Nat) (rt : Option FieldType) (D : va_G) (Y : Nat → ClassId) (A : Nat → Prop) (E : State → Prop) (fr lo mc ms : Nat) (av : List Value) (Ω : Heap → Prop) (rv : Option Value) (Ω' : Heap → Prop) : Prop :=
  Met l y (Cond.codeWith y bytes mL rt hh :: TB) { frames := fr, cells := mc, slots := ms, locals := lo } (fun v U => v = av.toArray ∧ WS D Y A E U ∧ Ω U.heap) (KQ A Ω' rv) mc ms A
theorem KM.sub (h : KM l y bytes mL rt D Y A' E' fr lo mc ms av Ω rv Ω') (hA : ∀ q, A' q → A q) (hE : ∀ U, E U → E' U) (hC : hbC A' E') (hf : ∀ H, Ψ H → Ω H ∧ ∀ q, H.size ≤ q → A q → A' q) (hk : ∀ H H' : Heap, Ψ H → Ω' H' → H.size ≤ H'.size → (∀ q, q < H.size → ¬ A' q → H'[q]? = H[q]?) → Ψ' H') : KM l y bytes mL rt D Y A E fr lo mc ms av Ψ rv Ψ' := by
  intro p e ha hc hk9 s m args below hfr happ hP hK
  obtain ⟨hv, hW, hΨ⟩ := hP
  obtain ⟨n, o, h1, h2, h3, ⟨k1, k2, k3⟩, L, hL, hb⟩ := h p e ha hc hk9 s m args below hfr happ ⟨hv, hW.sub hE hC (hf _ hΨ).2, (hf _ hΨ).1⟩ hK
  exact ⟨n, o, h1, h2, h3, ⟨k1, hk _ _ hΨ k2 k3.1 k3.2, k3.sub hA⟩, L, hL, fun z hz => hA _ (hb z hz)⟩
theorem KMW.sub {hh : List (Nat × Nat × Nat × Nat)} (h : KMW l y bytes hh mL rt D Y A' E' fr lo mc ms av Ω rv Ω') (hA : ∀ q, A' q → A q) (hE : ∀ U, E U → E' U) (hC : hbC A' E') (hf : ∀ H, Ψ H → Ω H ∧ ∀ q, H.size ≤ q → A q → A' q) (hk : ∀ H H' : Heap, Ψ H → Ω' H' → H.size ≤ H'.size → (∀ q, q < H.size → ¬ A' q → H'[q]? = H[q]?) → Ψ' H') : KMW l y bytes hh mL rt D Y A E fr lo mc ms av Ψ rv Ψ' := by
  intro p e ha hc hk9 s m args below hfr happ hP hK
  obtain ⟨hv, hW, hΨ⟩ := hP
  obtain ⟨n, o, h1, h2, h3, ⟨k1, k2, k3⟩, L, hL, hb⟩ := h p e ha hc hk9 s m args below hfr happ ⟨hv, hW.sub hE hC (hf _ hΨ).2, (hf _ hΨ).1⟩ hK
  exact ⟨n, o, h1, h2, h3, ⟨k1, hk _ _ hΨ k2 k3.1 k3.2, k3.sub hA⟩, L, hL, fun z hz => hA _ (hb z hz)⟩
/-- the choice of the smaller contract may depend on the heap -/
theorem KM.subH (h : ∀ H0, Ψ H0 → ∃ A' E' Ω Ω', KM l y bytes mL rt D Y A' E' fr lo mc ms av Ω rv Ω' ∧ (∀ q, A' q → A q) ∧ (∀ U, E U → E' U) ∧ hbC A' E' ∧ (∀ q, H0.size ≤ q → A q → A' q) ∧ Ω H0 ∧ ∀ H' : Heap, Ω' H' → H0.size ≤ H'.size → (∀ q, q < H0.size → ¬ A' q → H'[q]? = H0[q]?) → Ψ' H') : KM l y bytes mL rt D Y A E fr lo mc ms av Ψ rv Ψ' := by
  intro p e ha hc hk9 s m args below hfr happ hP hK
  obtain ⟨hv, hW, hΨ⟩ := hP
  obtain ⟨A', E', Ω, Ω', g1, g2, g3, g4, g5, g6, g7⟩ := h s.heap hΨ
  obtain ⟨n, o, h1, h2, h3, ⟨k1, k2, k3⟩, L, hL, hb⟩ := g1 p e ha hc hk9 s m args below hfr happ ⟨hv, hW.sub g3 g4 g5, g6⟩ hK
  exact ⟨n, o, h1, h2, h3, ⟨k1, g7 _ k2 k3.1 k3.2, k3.sub g2⟩, L, hL, fun z hz => g2 _ (hb z hz)⟩
theorem KMW_of {hh : List (Nat × Nat × Nat × Nat)} (own : String) (L : List (Nat × Value)) (ho : y.cls = own) (hy : plainName y.cls = true) (hl : l.stackTraces = false) (hav : (lg_sl av).length ≤ mL) (hL : lv_args 0 av = L) (hok : lok L)
    (body : ∀ (p : Program) (e : Env) (s : State) (m : MethodId) (args : Array Value) (below : List Frame) (meth : Method) (c : Code), CX p l s m args meth c own bytes mL rt D Y A E → c.exceptionTable.toList = tableOf hh →
      J p l e { frames := fr, cells := mc, slots := ms, locals := lo } s m args below meth c A mL (MQ below (KQ A Ω' rv) args s mc ms A) Ω 0 0 0 L []) : KMW l y bytes hh mL rt D Y A E fr lo mc ms av Ω rv Ω' := by
  unfold KMW Met
  refine MetFree.of_bodyS (code := bytes) (maxLocals := mL) (ret := rt) hy ?_ ?_
  · intro args s m h hn
    obtain ⟨m9, meth, c, hn9, h1, h2, h3, h4, -, h5, h6, -⟩ := Cond.codeWith_spec (atoms_spec (ws := Cond.codeWith y bytes mL rt hh :: TB) h _ List.mem_cons_self)
    cases hn.symm.trans hn9
    exact ⟨meth, c, h1, h2, h3, h4, h5, h6⟩
  · intro p e s m args below meth c s₁ B hml hP _
    have hh0 : s₁.heap = s.heap := by rw [B.state]; rfl
    obtain ⟨rfl, hW, hΩ⟩ := hP
    have hts := atoms_spec (ws := Cond.codeWith y bytes mL rt hh :: TB) B.pre
    have C0 : CX p l s m av.toArray meth c own bytes mL rt D Y A E := ⟨B.exec, B.bytes, hml, by rw [← ho]; exact findClass_of_methodNamed B.named, fun w hw => hts w (List.mem_cons_of_mem _ hw), B.returns, B.notSynchronized, hW, hl⟩
    have htab : c.exceptionTable.toList = tableOf hh := vx_table (x := y) B (hts _ List.mem_cons_self)
    have h3 := lv_entry av (n := mL) hav
    rw [hL] at h3
    have hJ := body p e s m _ below meth c C0 htab s.heap [] _ hΩ va_S.rf h3 hok
    rw [← lg_entry_eq] at hJ
    obtain ⟨t, a1, o, b1, b2, b3⟩ := hJ s₁ hh0 (Stand.of_body B)
    exact ⟨t, o, a1, b1, b2, b3⟩
end
/-- the static things of the law's side -/
def EL (A : Nat → Prop) (tE mi : Nat) (U : State) : Prop := EC A tE mi U ∧ va_Nc "java/lang/IllegalArgumentException" "java/lang/IndexOutOfBoundsException" U ∧ va_Nc "java/lang/IllegalStateException" "java/lang/IndexOutOfBoundsException" U ∧ va_Nc "java/lang/IllegalStateException" "java/lang/IllegalArgumentException" U
theorem EL.closed (A : Nat → Prop) (tE mi : Nat) : hbC A (EL A tE mi) := fun s U h hW hq => ⟨EC.closed A tE mi s U h.1 hW hq, va_Nc.moved hW.alike h.2.1, va_Nc.moved hW.alike h.2.2.1, va_Nc.moved hW.alike h.2.2.2⟩
theorem EL.narrow {A B : Nat → Prop} {tE mi : Nat} {U : State} (h : EL A tE mi U) (hAB : ∀ q, B q → A q) : EL B tE mi U := ⟨h.1.narrow hAB, h.2⟩
/-- the row of longs at o holds w -/
def OT (D : va_G) (Y : Nat → ClassId) (o : Nat) (w : Int64) : Heap → Prop := fun H => ∃ f : Nat → Int64, f 0 = w ∧ va_P D vwCl [(o, .inl (Y 3, 1, .inr (.inl f)))] H
theorem OT.lt {D : va_G} {Y : Nat → ClassId} {o : Nat} {w : Int64} {H : Heap} (h : OT D Y o w H) : o < H.size := by
  obtain ⟨f, h1, h2⟩ := h
  exact vx_lt (k := 0) (q := (o, .inl (Y 3, 1, .inr (.inl f)))) h2 rfl
theorem OT.keep {D : va_G} {Y : Nat → ClassId} {o : Nat} {w : Int64} {H H' : Heap} (h : OT D Y o w H) (hq : H'[o]? = H[o]?) : OT D Y o w H' := by
  obtain ⟨f, h1, h2⟩ := h
  refine ⟨f, h1, h2.kept (fun k q hk => ?_)⟩
  match k, hk with
  | 0, hk => cases hk; exact hq
  | k + 1, hk => cases hk
section
variable {p : Program} {l : Launch} {e : Env} {R : Room} {s : State} {m : MethodId} {args : Array Value} {below : List Frame} {meth : Method} {c : Code} {Q : State → Prop} {Ω Ω1 Ω9 : Heap → Prop} {cells slots pc nL : Nat} {L : List (Nat × Value)} {st rest stk : List Value} {own C : String} {cc bytes : ByteArray} {ret rt : Option FieldType} {D : va_G} {Y : Nat → ClassId} {A : Nat → Prop} {E : State → Prop} {y : MethodName} {mL fr lo mc ms n idx : Nat} {rv9 : Option Value} {b k9 o : Nat} {w : Int64}
theorem j_lastO (C0 : CX p l s m args meth c own cc nL ret D Y A E) (hAo : A o) {x : Int64} (d : decode cc pc = .ok (.lastore, 1)) (hk : ∀ H H' : Heap, Ω1 H → H.size = H'.size → (∀ q, q ≠ o → H'[q]? = H[q]?) → Ω1 H') (kk : J p l e R s m args below meth c A nL Q (fun H => Ω1 H ∧ OT D Y o x H) cells slots (pc + 1) L st) : J p l e R s m args below meth c A nL Q (fun H => Ω1 H ∧ OT D Y o w H) cells slots pc L (.long x :: .int 0 :: .ref o :: st) := by
  intro H locs ls ⟨h1, f, hf, hP⟩ h2 h3 h4
  have hK := C0.2.2.2.2.2.2.2.1.2.1
  have hD : va_D A [(o, .inl (Y 3, 1, .inr (.inl f)))] := by
    refine ⟨fun i j p q hi hj _ => ?_, fun k q hk9 => ?_⟩
    · have a1 := (List.getElem?_eq_some_iff.mp hi).1
      have a2 := (List.getElem?_eq_some_iff.mp hj).1
      simp at a1 a2
      omega
    · match k, hk9 with
      | 0, hk9 => cases hk9; exact hAo
      | k + 1, hk9 => cases hk9
  have hin : vp_in (0 : Int32) 1 := vp_lit (by decide)
  refine W.last C0.1 C0.2.1 (hP 0 _ rfl) ((hK.2 3 _ rfl).1 1 (fun j => .long (f j))) (fun q => by cases q) (by show ¬ ((0 : Int32) < 0 ∨ (arrV _ _ _).slots.size ≤ _); rw [arrV_size]; exact hin) rfl rfl d fun H1 e1 z oq => ?_
  refine kk H1 _ ls ⟨hk H H1 h1 z.symm oq, vp_updL f 0 x, pk_uLs, ?_⟩ (h2.put z oq hAo) h3 h4
  refine hP.set (p := 0) hD rfl ?_ oq
  show H1[o]? = some (vp_cell _ _)
  rw [e1]
  rw [vp_cell_l, vp_cell_l, arrV_store]
  rfl
theorem j_laldO (C0 : CX p l s m args meth c own cc nL ret D Y A E) (d : decode cc pc = .ok (.laload, 1)) (hΩ : ∀ H, Ω H → OT D Y o w H) (kk : J p l e R s m args below meth c A nL Q Ω cells slots (pc + 1) L (.long w :: st)) : J p l e R s m args below meth c A nL Q Ω cells slots pc L (.int 0 :: .ref o :: st) := by
  intro H locs ls h1 h2 h3 h4
  obtain ⟨f, hf, hP⟩ := hΩ H h1
  refine va_lald C0.1 C0.2.1 C0.2.2.2.2.2.2.2.1.2.1 hP 0 3 rfl rfl (i := 0) (vp_lit (by decide)) d ?_
  have := kk H locs ls h1 h2 h3 h4
  rw [← hf] at this
  exact this
theorem j_lcmp (C0 : CX p l s m args meth c own cc nL ret D Y A E) {x z : Int64} (d : decode cc pc = .ok (.lcmp, 1)) (kk : J p l e R s m args below meth c A nL Q Ω cells slots (pc + 1) L (.int (lg_cmp x z) :: st)) : J p l e R s m args below meth c A nL Q Ω cells slots pc L (.long z :: .long x :: st) := fun H locs ls h1 h2 h3 h4 => W.lcmp C0.1 C0.2.1 d (kk H locs ls h1 h2 h3 h4)
theorem lg_cmp_0 {x z : Int64} : lg_cmp x z = 0 ↔ x = z := by
  unfold lg_cmp
  by_cases h1 : z < x
  · simp [h1]
    intro q; rw [q] at h1; exact Int64.lt_irrefl h1
  · by_cases h2 : x = z
    · simp [h1, h2]
    · simp [h1, h2]
/-- a call under handlers -/
theorem j_xcatchV (C0 : CX p l s m args meth c own cc nL ret D Y A E) {As : List Value} (hM : XM l y bytes mL rt D Y A E fr lo mc ms (.ref b :: As) Ω rv9 k9 Ω9) (hw : MV C y bytes mL rt n) (hl : Cond.methodLink own idx y ∈ TB) (hrec : RV s Ω C b) (hn : As.length = n) (hst : stk = As.reverse ++ .ref b :: rest) (hR : fr + 1 ≤ R.frames ∧ 8 + (mL + 11) + lo ≤ R.locals) (hc : (rest.map fun v => v.category).sum ≤ 8) (hf : cells + mc ≤ R.cells ∧ slots + ms ≤ R.slots) (d : decode cc pc = .ok (.invokevirtual idx, 3))
    (kx : k9 ≠ 0 → ∃ (pre suf : List ExceptionTableEntry) (x : ExceptionTableEntry) (name : String), c.exceptionTable.toList = pre ++ x :: suf ∧ (∀ z ∈ pre, covers z pc = false ∨ (z.catchType ≠ 0 ∧ ∃ nm : String, (Cond.classLink own z.catchType nm).before args s = true ∧ va_Nc (exN k9) nm s)) ∧ covers x pc = true ∧ x.catchType ≠ 0 ∧ (Cond.classLink own x.catchType name).before args s = true ∧ (Cond.castable (exN k9) name).before args s = true ∧ ∀ q, J p l e R s m args below meth c A nL Q Ω9 (cells + mc) (slots + ms) x.handlerPc L [.ref q])
    (kk : k9 = 0 → J p l e R s m args below meth c A nL Q Ω9 (cells + mc) (slots + ms) (pc + 3) L (rv9.toList ++ rest)) : J p l e R s m args below meth c A nL Q Ω cells slots pc L stk := by
  intro H locs ls h1 h2 h3 h4
  subst hst
  exact hb_xcall (a := (.ref b :: As).toArray) (vx_runV (As := As) (rest := rest) ⟨C0.1, C0.2.1, C0.2.2.1, C0.2.2.2.1, C0.2.2.2.2.1⟩ hM (cwV n C0.2.2.2.2.1 (hw.good hl) rfl rfl rfl hw.2.2.2.2 hR) ⟨KM.blind (l := l), hrec H h1, fun U hU hW => ⟨rfl, C0.pre h2 hU hW, by rw [hU]; exact h1⟩⟩ rfl hn h3.1 rfl (lv_room hc) d hf) h2
    (fun k0 H1 locs1 ce q g1 g2 g3 g4 g5 => by
      obtain ⟨pre, suf, x, name, x1, x2, x3, x4, x5, x6, x7⟩ := kx k0
      exact vx_catch C0.2.2.2.1 pre x suf x1 x2 x3 x4 x5 x6 g3 g4 g5 (x7 q H1 locs1 ls g1 g2 h3 h4))
    (fun k0 H1 locs1 g1 g2 => kk k0 H1 locs1 ls g1 g2 h3 h4)
end
end
