section
theorem NW.re {D : va_G} {A A' : Nat → Prop} {cel : NMs} {H : Heap} (h : NW D A cel H) (hA : ∀ q : Nat, q < H.size → A q → A' q) : NW D A' cel H := by
  obtain ⟨ws, pos, h1, hP, hD⟩ := h
  exact ⟨ws, pos, h1, hP, hD.1, fun k q hk => hA _ (vx_lt hP hk) (hD.2 k q hk)⟩
theorem NW.keep {D : va_G} {A : Nat → Prop} {cel : NMs} {H H' : Heap} (h : NW D A cel H) (hq : ∀ q : Nat, q < H.size → A q → H'[q]? = H[q]?) : NW D A cel H' := by
  obtain ⟨ws, pos, h1, hP, hD⟩ := h
  exact ⟨ws, pos, h1, hP.kept (fun k q hk => hq _ (vx_lt hP hk) (hD.2 k q hk)), hD⟩
theorem CA.re {D : va_G} {Y : Nat → ClassId} {A A' : Nat → Prop} {tE : Nat} {ad : Nat → Nat} {F : Nat → Int32} {G : Nat → Nat → Int32} {N : Nat → Nat} {Q : Nat → Nat → Nat} {H : Heap} (h : CA D Y A tE ad F G N Q H) (hA : ∀ q : Nat, q < H.size → A q → A' q) : CA D Y A' tE ad F G N Q H := by
  obtain ⟨sa, ma, cel, h1, h2⟩ := h
  exact ⟨sa, ma, cel, h1, h2.re hA⟩
theorem CA.keep {D : va_G} {Y : Nat → ClassId} {A : Nat → Prop} {tE : Nat} {ad : Nat → Nat} {F : Nat → Int32} {G : Nat → Nat → Int32} {N : Nat → Nat} {Q : Nat → Nat → Nat} {H H' : Heap} (h : CA D Y A tE ad F G N Q H) (hq : ∀ q : Nat, q < H.size → A q → H'[q]? = H[q]?) : CA D Y A tE ad F G N Q H' := by
  obtain ⟨sa, ma, cel, h1, h2⟩ := h
  exact ⟨sa, ma, cel, h1, h2.keep hq⟩
section
variable {l : Launch} {y : MethodName} {bytes : ByteArray} {mL : Nat} {rt : Option FieldType} {D : va_G} {Y : Nat → ClassId} {A A' : Nat → Prop} {E E' : State → Prop} {fr lo mc ms k : Nat} {av : List Value} {Ω Ω' Ψ Ψ' : Heap → Prop} {rv : Option Value}
theorem va_F.sub {s t : State} (h : va_F A' s t) (hA : ∀ q, A' q → A q) : va_F A s t := ⟨h.1, fun q h1 h2 => h.2 q h1 (fun z => h2 (hA q z))⟩
theorem WS.sub {U : State} (h : WS D Y A E U) (hE : ∀ U, E U → E' U) (hC : hbC A' E') (hf : ∀ q, U.heap.size ≤ q → A q → A' q) : WS D Y A' E' U := ⟨fun q hq => hf q hq (h.1 q hq), h.2.1, hE _ h.2.2.1, hC⟩
/-- a contract over fewer cells, in a larger world -/
theorem XM.sub (h : XM l y bytes mL rt D Y A' E' fr lo mc ms av Ω rv k Ω') (hA : ∀ q, A' q → A q) (hE : ∀ U, E U → E' U) (hC : hbC A' E') (hf : ∀ H, Ψ H → Ω H ∧ ∀ q, H.size ≤ q → A q → A' q) (hk : ∀ H H' : Heap, Ψ H → Ω' H' → H.size ≤ H'.size → (∀ q, q < H.size → ¬ A' q → H'[q]? = H[q]?) → Ψ' H') : XM l y bytes mL rt D Y A E fr lo mc ms av Ψ rv k Ψ' := by
  intro p e ha hc hk9 s m args below hfr happ hP hK
  obtain ⟨hv, hW, hΨ⟩ := hP
  obtain ⟨n, o, h1, h2, h3, h4⟩ := h p e ha hc hk9 s m args below hfr happ ⟨hv, hW.sub hE hC (hf _ hΨ).2, (hf _ hΨ).1⟩ hK
  refine ⟨n, o, h1, h2, h3, ?_⟩
  rcases h4 with ⟨⟨k0, k1, k2, k3⟩, L, hL, hb⟩ | ⟨q, hq, E9, ce, L, ⟨k0, k1, k2, k3⟩, hT⟩
  · exact Or.inl ⟨⟨k0, k1, hk _ _ hΨ k2 k3.1 k3.2, k3.sub hA⟩, L, hL, fun z hz => hA _ (hb z hz)⟩
  · obtain ⟨t1, t2, t3, t4, t5, t6⟩ := hT
    exact Or.inr ⟨q, hq, E9, ce, L, ⟨k0, k1, hk _ _ hΨ k2 k3.1 k3.2, k3.sub hA⟩, t1, t2, t3, t4, t5, fun z hz => hA _ (t6 z hz)⟩
/-- a contract that returns, of a method with an exception table -/
def KMW (l : Launch) (y : MethodName) (bytes : ByteArray) (hh : List (Nat × Nat × Nat × Nat)) (mL : Nat) (rt : Option FieldType) (D : va_G) (Y : Nat → ClassId) (A : Nat → Prop) (E : State → Prop) (fr lo mc ms : Nat) (av : List Value) (Ω : Heap → Prop) (rv : Option Value) (Ω' : Heap → Prop) : Prop :=
  Met l y (Cond.codeWith y bytes mL rt hh :: TB) { frames := fr, cells := mc, slots := ms, locals := lo } (fun v U => v = av.toArray ∧ WS D Y A E U ∧ Ω U.heap) (KQ A Ω' rv) mc ms A
theorem KM.sub (h : KM l y bytes mL rt D Y A' E' fr lo mc ms av Ω rv Ω') (hA : ∀ q, A' q → A q) (hE : ∀ U, E U → E' U) (hC : hbC A' E') (hf : ∀ H, Ψ H → Ω H ∧ ∀ q, H.size ≤ q → A q → A' q) (hk : ∀ H H' : Heap, Ψ H → Ω' H' → H.size ≤ H'.size → (∀ q, q < H.size → ¬ A' q → H'[q]? = H[q]?) → Ψ' H') : KM l y bytes mL rt D Y A E fr lo mc ms av Ψ rv Ψ' := by
  intro p e ha hc hk9 s m args below hfr happ hP hK
  obtain ⟨hv, hW, hΨ⟩ := hP
  obtain ⟨n, o, h1, h2, h3, ⟨k1, k2, k3⟩, L, hL, hb⟩ := h p e ha hc hk9 s m args below hfr happ ⟨hv, hW.sub hE hC (hf _ hΨ).2, (hf _ hΨ).1⟩ hK
  exact ⟨n, o, h1, h2, h3, ⟨k1, hk _ _ hΨ k2 k3.1 k3.2, k3.sub hA⟩, L, hL, fun z hz => hA _ (hb z hz)⟩
theorem KMW.sub {hh : List (Nat × Nat × Nat × Nat)} (h : KMW l y bytes hh mL rt D Y A' E' fr lo mc ms av Ω rv Ω') (hA : ∀ q, A' q → A q) (hE : ∀ U, E U → E' U) (hC : hbC A' E') (hf : ∀ H, Ψ H → Ω H ∧ ∀ q, H.size ≤ q → A q → A' q) (hk : ∀ H H' : Heap, Ψ H → Ω' H' → H.size ≤ H'.size → (∀ q, q < H.size → ¬ A' q → H'[q]? = H[q]?) → Ψ' H') : KMW l y bytes hh mL rt D Y A E fr lo mc ms av Ψ rv Ψ' := by
  intro p e ha hc hk9 s m args below hfr happ hP hK
  obtain ⟨hv, hW, hΨ⟩ := hP
  obtain ⟨n, o, h1, h2, h3, ⟨k1, k2, k3⟩, L, hL, hb⟩ := h p e ha hc hk9 s m args below hfr happ ⟨hv, hW.sub hE hC (hf _ hΨ).2, (hf _ hΨ).1⟩ hK
  exact ⟨n, o, h1, h2, h3, ⟨k1, hk _ _ hΨ k2 k3.1 k3.2, k3.sub hA⟩, L, hL, fun z hz => hA _ (hb z hz)⟩
/-- the choice of the smaller contract may depend on the heap -/
theorem KM.subH (h : ∀ H0, Ψ H0 → ∃ A' E' Ω Ω', KM l y bytes mL rt D Y A' E' fr lo mc ms av Ω rv Ω' ∧ (∀ q, A' q → A q) ∧ (∀ U, E U → E' U) ∧ hbC A' E' ∧ (∀ q, H0.size ≤ q → A q → A' q) ∧ Ω H0 ∧ ∀ H' : Heap, Ω' H' → H0.size ≤ H'.size → (∀ q, q < H0.size → ¬ A' q → H'[q]? = H0[q]?) → Ψ' H') : KM l y bytes mL rt D Y A E fr lo mc ms av Ψ rv Ψ' := by
  intro p e ha hc hk9 s m args below hfr happ hP hK
  obtain ⟨hv, hW, hΨ⟩ := hP
  obtain ⟨A', E', Ω, Ω', g1, g2, g3, g4, g5, g6, g7⟩ := h s.heap hΨ
  obtain ⟨n, o, h1, h2, h3, ⟨k1, k2, k3⟩, L, hL, hb⟩ := g1 p e ha hc hk9 s m args below hfr happ ⟨hv, hW.sub g3 g4 g5, g6⟩ hK
  exact ⟨n, o, h1, h2, h3, ⟨k1, g7 _ k2 k3.1 k3.2, k3.sub g2⟩, L, hL, fun z hz => g2 _ (hb z hz)⟩
theorem KMW_of {hh : List (Nat × Nat × Nat × Nat)} (own : String) (L : List (Nat × Value)) (ho : y.cls = own) (hy : plainName y.cls = true) (hl : l.stackTraces = false) (hav : (lg_sl av).length ≤ mL) (hL : lv_args 0 av = L) (hok : lok L)
    (body : ∀ (p : Program) (e : Env) (s : State) (m : MethodId) (args : Array Value) (below : List Frame) (meth : Method) (c : Code), CX p l s m args meth c own bytes mL rt D Y A E → c.exceptionTable.toList = tableOf hh →
      J p l e { frames := fr, cells := mc, slots := ms, locals := lo } s m args below meth c A mL (MQ below (KQ A Ω' rv) args s mc ms A) Ω 0 0 0 L []) : KMW l y bytes hh mL rt D Y A E fr lo mc ms av Ω rv Ω' := by
  unfold KMW Met
  refine MetFree.of_bodyS (code := bytes) (maxLocals := mL) (ret := rt) hy ?_ ?_
  · intro args s m h hn
    obtain ⟨m9, meth, c, hn9, h1, h2, h3, h4, -, h5, h6, -⟩ := Cond.codeWith_spec (atoms_spec (ws := Cond.codeWith y bytes mL rt hh :: TB) h _ List.mem_cons_self)
    cases hn.symm.trans hn9
    exact ⟨meth, c, h1, h2, h3, h4, h5, h6⟩
  · intro p e s m args below meth c s₁ B hml hP _
    have hh0 : s₁.heap = s.heap := by rw [B.state]; rfl
    obtain ⟨rfl, hW, hΩ⟩ := hP
    have hts := atoms_spec (ws := Cond.codeWith y bytes mL rt hh :: TB) B.pre
    have C0 : CX p l s m av.toArray meth c own bytes mL rt D Y A E := ⟨B.exec, B.bytes, hml, by rw [← ho]; exact findClass_of_methodNamed B.named, fun w hw => hts w (List.mem_cons_of_mem _ hw), B.returns, B.notSynchronized, hW, hl⟩
    have htab : c.exceptionTable.toList = tableOf hh := vx_table (x := y) B (hts _ List.mem_cons_self)
    have h3 := lv_entry av (n := mL) hav
    rw [hL] at h3
    have hJ := body p e s m _ below meth c C0 htab s.heap [] _ hΩ va_S.rf h3 hok
    rw [← lg_entry_eq] at hJ
    obtain ⟨t, a1, o, b1, b2, b3⟩ := hJ s₁ hh0 (Stand.of_body B)
    exact ⟨t, o, a1, b1, b2, b3⟩
end
section
variable {p : Program} {l : Launch} {e : Env} {R : Room} {s : State} {m : MethodId} {args : Array Value} {below : List Frame} {meth : Method} {c : Code} {Q : State → Prop} {Ω Ω1 Ω9 : Heap → Prop} {cells slots pc nL : Nat} {L : List (Nat × Value)} {st rest stk : List Value} {own C : String} {cc bytes : ByteArray} {ret rt : Option FieldType} {D : va_G} {Y : Nat → ClassId} {A : Nat → Prop} {E : State → Prop} {y : MethodName} {mL fr lo mc ms n idx : Nat} {rv9 : Option Value} {b k9 o : Nat} {w : Int64}
/-- a call under handlers -/
theorem j_xcatchV (C0 : CX p l s m args meth c own cc nL ret D Y A E) {As : List Value} (hM : XM l y bytes mL rt D Y A E fr lo mc ms (.ref b :: As) Ω rv9 k9 Ω9) (hw : MV C y bytes mL rt n) (hl : Cond.methodLink own idx y ∈ TB) (hrec : RV s Ω C b) (hn : As.length = n) (hst : stk = As.reverse ++ .ref b :: rest) (hR : fr + 1 ≤ R.frames ∧ 8 + (mL + 11) + lo ≤ R.locals) (hc : (rest.map fun v => v.category).sum ≤ 8) (hf : cells + mc ≤ R.cells ∧ slots + ms ≤ R.slots) (d : decode cc pc = .ok (.invokevirtual idx, 3))
    (kx : k9 ≠ 0 → ∃ (pre suf : List ExceptionTableEntry) (x : ExceptionTableEntry) (name : String), c.exceptionTable.toList = pre ++ x :: suf ∧ (∀ z ∈ pre, covers z pc = false ∨ (z.catchType ≠ 0 ∧ ∃ nm : String, (Cond.classLink own z.catchType nm).before args s = true ∧ va_Nc (exN k9) nm s)) ∧ covers x pc = true ∧ x.catchType ≠ 0 ∧ (Cond.classLink own x.catchType name).before args s = true ∧ (Cond.castable (exN k9) name).before args s = true ∧ ∀ q, J p l e R s m args below meth c A nL Q Ω9 (cells + mc) (slots + ms) x.handlerPc L [.ref q])
    (kk : k9 = 0 → J p l e R s m args below meth c A nL Q Ω9 (cells + mc) (slots + ms) (pc + 3) L (rv9.toList ++ rest)) : J p l e R s m args below meth c A nL Q Ω cells slots pc L stk := by
  intro H locs ls h1 h2 h3 h4
  subst hst
  exact hb_xcall (a := (.ref b :: As).toArray) (vx_runV (As := As) (rest := rest) ⟨C0.1, C0.2.1, C0.2.2.1, C0.2.2.2.1, C0.2.2.2.2.1⟩ hM (cwV n C0.2.2.2.2.1 (hw.good hl) rfl rfl rfl hw.2.2.2.2 hR) ⟨KM.blind (l := l), hrec H h1, fun U hU hW => ⟨rfl, C0.pre h2 hU hW, by rw [hU]; exact h1⟩⟩ rfl hn h3.1 rfl (lv_room hc) d hf) h2
    (fun k0 H1 locs1 ce q g1 g2 g3 g4 g5 => by
      obtain ⟨pre, suf, x, name, x1, x2, x3, x4, x5, x6, x7⟩ := kx k0
      exact vx_catch C0.2.2.2.1 pre x suf x1 x2 x3 x4 x5 x6 g3 g4 g5 (x7 q H1 locs1 ls g1 g2 h3 h4))
    (fun k0 H1 locs1 g1 g2 => kk k0 H1 locs1 ls g1 g2 h3 h4)
end
end

section
/-- the port's cells at the law: all new ones but those of the rows c and p -/
def AC (z ac ap : Nat) : Nat → Prop := fun q => (z ≤ q ∧ q ≠ ac) ∧ q ≠ ap
abbrev wsL (Y : Nat → ClassId) (ac ap : Nat) (cf pf : Nat → Int32) : va_W := [(ac, .inl (Y 0, 14, .inl cf)), (ap, .inl (Y 0, 60, .inl pf))]
/-- the law's world: the port, the row c of 14 ints, the row p of 60 -/
def LV (D : va_G) (Y : Nat → ClassId) (z tE ac ap : Nat) (ad : Nat → Nat) (F : Nat → Int32) (G : Nat → Nat → Int32) (N : Nat → Nat) (Q : Nat → Nat → Nat) (cf pf : Nat → Int32) : Heap → Prop := fun H => CA D Y (AC z ac ap) tE ad F G N Q H ∧ Ow D (fun q => z ≤ q) (wsL Y ac ap cf pf) H
theorem l_loop {P : Nat → Prop} (N : Nat) (hN : P N) (hs : ∀ j, j < N → P (j + 1) → P j) : P 0 := by
  have key : ∀ k, k ≤ N → P (N - k) := by
    intro k
    induction k with
    | zero => intro _; exact hN
    | succ k ih =>
      intro hk
      have h := ih (by omega)
      have e : N - k = (N - (k + 1)) + 1 := by omega
      rw [e] at h
      exact hs _ (by omega) h
  have h := key N (Nat.le_refl N)
  rw [Nat.sub_self] at h
  exact h
variable {p : Program} {l : Launch} {e : Env} {R : Room} {s : State} {m : MethodId} {args : Array Value} {below : List Frame} {meth : Method} {c : Code} {Q9 : State → Prop} {cells slots pc nL : Nat} {L L' : List (Nat × Value)} {st rest stk : List Value} {own : String} {cc bytes : ByteArray} {ret rt : Option FieldType} {D : va_G} {Y : Nat → ClassId} {E E' : State → Prop} {y : MethodName} {mL fr lo mc ms n idx k z tE mi ac ap : Nat} {ad : Nat → Nat} {F F' : Nat → Int32} {G G' : Nat → Nat → Int32} {N N' : Nat → Nat} {Q Q' : Nat → Nat → Nat} {cf cf' pf pf' : Nat → Int32} {av : List Value} {v v' : Int32}
theorem l_stW {W9 : Heap → Prop} {ws : va_W} {q0 a n : Nat} {f : Nat → Int32} (C0 : CX p l s m args meth c own cc nL ret D Y (fun q => z ≤ q) E) (ha : ws[q0]? = some (a, .inl (Y 0, n, .inl f))) (hkp : ∀ H H1 : Heap, W9 H → (∀ q, q ≠ a → H1[q]? = H[q]?) → W9 H1) {i x : Int32} (hi : vp_in i n) (d : decode cc pc = .ok (.iastore, 1)) (kk : J p l e R s m args below meth c (fun q => z ≤ q) nL Q9 (fun H => W9 H ∧ Ow D (fun q => z ≤ q) (ws.set q0 (a, .inl (Y 0, n, .inl (upd f i.toNatClampNeg x)))) H) cells slots (pc + 1) L st) : J p l e R s m args below meth c (fun q => z ≤ q) nL Q9 (fun H => W9 H ∧ Ow D (fun q => z ≤ q) ws H) cells slots pc L (.int x :: .int i :: .ref a :: st) := by
  intro H locs ls h1 h2 h3 h4
  have hP := h1.2.1
  have hD := h1.2.2
  refine W.iast C0.1 C0.2.1 (hP q0 _ ha) ((C0.2.2.2.2.2.2.2.1.2.1.2 0 _ rfl).1 n (fun j => .int (f j))) (fun q => by cases q) (by show ¬ (i < 0 ∨ (arrV _ _ _).slots.size ≤ _); rw [arrV_size]; exact hi) rfl rfl d fun H1 e zz oq => ?_
  refine kk H1 _ ls ⟨hkp H H1 h1.1 oq, hP.set hD ha ?_ oq, hD.set ha⟩ (h2.put zz oq (hD.2 q0 _ ha)) h3 h4
  show H1[a]? = some (vp_cell _ _)
  rw [e]
  rw [vp_cell_i, vp_cell_i, arrV_store]
  congr 2
  funext q
  by_cases hq : q = i.toNatClampNeg
  · subst hq
    simp [updV, upd]
  · simp [updV, upd, hq]
theorem l_ldW {W9 : Heap → Prop} {ws : va_W} {q0 a n : Nat} {f : Nat → Int32} (C0 : CX p l s m args meth c own cc nL ret D Y (fun q => z ≤ q) E) (ha : ws[q0]? = some (a, .inl (Y 0, n, .inl f))) {i v : Int32} (hi : vp_in i n) (d : decode cc pc = .ok (.iaload, 1)) (hv : f i.toNatClampNeg = v) (kk : J p l e R s m args below meth c (fun q => z ≤ q) nL Q9 (fun H => W9 H ∧ Ow D (fun q => z ≤ q) ws H) cells slots (pc + 1) L (.int v :: st)) : J p l e R s m args below meth c (fun q => z ≤ q) nL Q9 (fun H => W9 H ∧ Ow D (fun q => z ≤ q) ws H) cells slots pc L (.int i :: .ref a :: st) := by
  subst hv
  exact fun H locs ls h1 h2 h3 h4 => va_iald C0.1 C0.2.1 C0.2.2.2.2.2.2.2.1.2.1 h1.2.1 q0 0 ha rfl hi d (kk H locs ls h1 h2 h3 h4)
theorem l_ldc (C0 : CX p l s m args meth c own cc nL ret D Y (fun q => z ≤ q) E) {i v : Int32} (hi : vp_in i 14) (d : decode cc pc = .ok (.iaload, 1)) (hv : cf i.toNatClampNeg = v) (kk : J p l e R s m args below meth c (fun q => z ≤ q) nL Q9 (LV D Y z tE ac ap ad F G N Q cf pf) cells slots (pc + 1) L (.int v :: st)) : J p l e R s m args below meth c (fun q => z ≤ q) nL Q9 (LV D Y z tE ac ap ad F G N Q cf pf) cells slots pc L (.int i :: .ref ac :: st) := l_ldW C0 (q0 := 0) (ws := wsL Y ac ap cf pf) rfl hi d hv kk
theorem l_stc (C0 : CX p l s m args meth c own cc nL ret D Y (fun q => z ≤ q) E) {i x : Int32} (hi : vp_in i 14) (d : decode cc pc = .ok (.iastore, 1)) (kk : J p l e R s m args below meth c (fun q => z ≤ q) nL Q9 (LV D Y z tE ac ap ad F G N Q (upd cf i.toNatClampNeg x) pf) cells slots (pc + 1) L st) : J p l e R s m args below meth c (fun q => z ≤ q) nL Q9 (LV D Y z tE ac ap ad F G N Q cf pf) cells slots pc L (.int x :: .int i :: .ref ac :: st) := l_stW C0 (q0 := 0) (ws := wsL Y ac ap cf pf) rfl (fun H H1 h oq => h.keep (fun q q1 q2 => oq q (fun e9 => by rw [e9] at q2; exact q2.1.2 rfl))) hi d kk
theorem l_ldp (C0 : CX p l s m args meth c own cc nL ret D Y (fun q => z ≤ q) E) {i v : Int32} (hi : vp_in i 60) (d : decode cc pc = .ok (.iaload, 1)) (hv : pf i.toNatClampNeg = v) (kk : J p l e R s m args below meth c (fun q => z ≤ q) nL Q9 (LV D Y z tE ac ap ad F G N Q cf pf) cells slots (pc + 1) L (.int v :: st)) : J p l e R s m args below meth c (fun q => z ≤ q) nL Q9 (LV D Y z tE ac ap ad F G N Q cf pf) cells slots pc L (.int i :: .ref ap :: st) := l_ldW C0 (q0 := 1) (ws := wsL Y ac ap cf pf) rfl hi d hv kk
theorem l_stp (C0 : CX p l s m args meth c own cc nL ret D Y (fun q => z ≤ q) E) {i x : Int32} (hi : vp_in i 60) (d : decode cc pc = .ok (.iastore, 1)) (kk : J p l e R s m args below meth c (fun q => z ≤ q) nL Q9 (LV D Y z tE ac ap ad F G N Q cf (upd pf i.toNatClampNeg x)) cells slots (pc + 1) L st) : J p l e R s m args below meth c (fun q => z ≤ q) nL Q9 (LV D Y z tE ac ap ad F G N Q cf pf) cells slots pc L (.int x :: .int i :: .ref ap :: st) := l_stW C0 (q0 := 1) (ws := wsL Y ac ap cf pf) rfl (fun H H1 h oq => h.keep (fun q q1 q2 => oq q (fun e9 => by rw [e9] at q2; exact q2.2 rfl))) hi d kk
theorem l_ldcN (C0 : CX p l s m args meth c own cc nL ret D Y (fun q => z ≤ q) E) {i : Nat} {v : Int32} (hi : i < 14) (d : decode cc pc = .ok (.iaload, 1)) (hv : cf i = v) (kk : J p l e R s m args below meth c (fun q => z ≤ q) nL Q9 (LV D Y z tE ac ap ad F G N Q cf pf) cells slots (pc + 1) L (.int v :: st)) : J p l e R s m args below meth c (fun q => z ≤ q) nL Q9 (LV D Y z tE ac ap ad F G N Q cf pf) cells slots pc L (.int (nI i) :: .ref ac :: st) := l_ldc C0 (vp_in_nI hi (by decide)) d (by rw [nI_clamp (by omega)]; exact hv) kk
theorem l_stcN (C0 : CX p l s m args meth c own cc nL ret D Y (fun q => z ≤ q) E) {i : Nat} {x : Int32} (hi : i < 14) (d : decode cc pc = .ok (.iastore, 1)) (kk : J p l e R s m args below meth c (fun q => z ≤ q) nL Q9 (LV D Y z tE ac ap ad F G N Q (upd cf i x) pf) cells slots (pc + 1) L st) : J p l e R s m args below meth c (fun q => z ≤ q) nL Q9 (LV D Y z tE ac ap ad F G N Q cf pf) cells slots pc L (.int x :: .int (nI i) :: .ref ac :: st) := l_stc C0 (vp_in_nI hi (by decide)) d (by rw [nI_clamp (by omega)]; exact kk)
theorem l_ldpN (C0 : CX p l s m args meth c own cc nL ret D Y (fun q => z ≤ q) E) {i : Nat} {v : Int32} (hi : i < 60) (d : decode cc pc = .ok (.iaload, 1)) (hv : pf i = v) (kk : J p l e R s m args below meth c (fun q => z ≤ q) nL Q9 (LV D Y z tE ac ap ad F G N Q cf pf) cells slots (pc + 1) L (.int v :: st)) : J p l e R s m args below meth c (fun q => z ≤ q) nL Q9 (LV D Y z tE ac ap ad F G N Q cf pf) cells slots pc L (.int (nI i) :: .ref ap :: st) := l_ldp C0 (vp_in_nI hi (by decide)) d (by rw [nI_clamp (by omega)]; exact hv) kk
theorem l_stpN (C0 : CX p l s m args meth c own cc nL ret D Y (fun q => z ≤ q) E) {i : Nat} {x : Int32} (hi : i < 60) (d : decode cc pc = .ok (.iastore, 1)) (kk : J p l e R s m args below meth c (fun q => z ≤ q) nL Q9 (LV D Y z tE ac ap ad F G N Q cf (upd pf i x)) cells slots (pc + 1) L st) : J p l e R s m args below meth c (fun q => z ≤ q) nL Q9 (LV D Y z tE ac ap ad F G N Q cf pf) cells slots pc L (.int x :: .int (nI i) :: .ref ap :: st) := l_stp C0 (vp_in_nI hi (by decide)) d (by rw [nI_clamp (by omega)]; exact kk)
theorem lv_recv (C0 : CX p l s m args meth c own cc nL ret D Y (fun q => z ≤ q) E) : RV s (LV D Y z tE ac ap ad F G N Q cf pf) RX6 (ad 0) := fun H h => by
  obtain ⟨sa, ma, h3⟩ := h.1.re (A' := fun q => z ≤ q) (fun q _ z9 => z9.1.1)
  exact c_recv C0 (ci := 9) rfl 0 (fun cel h => ⟨_, ci_0 h⟩) H h3
theorem LV.lt {H : Heap} (h : LV D Y z tE ac ap ad F G N Q cf pf H) : ac < H.size ∧ ap < H.size := ⟨vx_lt (k := 0) (q := (ac, .inl (Y 0, 14, .inl cf))) h.2.1 rfl, vx_lt (k := 1) (q := (ap, .inl (Y 0, 60, .inl pf))) h.2.1 rfl⟩
theorem AC_nc : ¬ AC z ac ap ac := fun h => h.1.2 rfl
theorem AC_np : ¬ AC z ac ap ap := fun h => h.2 rfl
theorem LV.rows {H H' : Heap} (h : LV D Y z tE ac ap ad F G N Q cf pf H) (h2 : ∀ q, q < H.size → ¬ AC z ac ap q → H'[q]? = H[q]?) : Ow D (fun q => z ≤ q) (wsL Y ac ap cf pf) H' := ⟨h.2.1.kept (fun k q hk => by
    match k, hk with
    | 0, hk => cases hk; exact h2 _ h.lt.1 AC_nc
    | 1, hk => cases hk; exact h2 _ h.lt.2 AC_np
    | k + 2, hk => cases hk), h.2.2⟩
/-- a call of the port that returns, in the law's world -/
theorem lv_kx (hk : k = 0) (hv : v = v') (h : XM l y bytes mL rt D Y (AC z ac ap) (EC (AC z ac ap) tE mi) fr lo mc ms av (CA D Y (AC z ac ap) tE ad F G N Q) (some (.int v)) k (CA D Y (AC z ac ap) tE ad F' G' N' Q')) :
    KM l y bytes mL rt D Y (fun q => z ≤ q) (EC (fun q => z ≤ q) tE mi) fr lo mc ms av (LV D Y z tE ac ap ad F G N Q cf pf) (some (.int v')) (LV D Y z tE ac ap ad F' G' N' Q' cf pf) := by
  subst hv
  have h2 : KM l y bytes mL rt D Y (AC z ac ap) (EC (AC z ac ap) tE mi) fr lo mc ms av (CA D Y (AC z ac ap) tE ad F G N Q) (some (.int v)) (CA D Y (AC z ac ap) tE ad F' G' N' Q') := by
    intro p e ha hc hk9 s m args below hfr happ hP hK
    obtain ⟨n, o9, h1, h2, h3, h4⟩ := h p e ha hc hk9 s m args below hfr happ hP hK
    rcases h4 with ⟨⟨k0, k1, k2, k3⟩, hL⟩ | ⟨q, hq, E9, ce, L, ⟨k0, k1, k2, k3⟩, hT⟩
    · exact ⟨n, o9, h1, h2, h3, ⟨k1, k2, k3⟩, hL⟩
    · exact absurd hk k0
  exact h2.sub (fun q h => h.1.1) (fun U h => h.narrow (fun q z9 => z9.1.1)) (EC.closed _ tE mi) (fun H h => ⟨h.1, fun q h1 h2 => ⟨⟨h2, fun e9 => by have := h.lt.1; omega⟩, fun e9 => by have := h.lt.2; omega⟩⟩) (fun H H' h h' h1 h2 => ⟨h', h.rows h2⟩)
/-- the same of a call that may throw -/
theorem lv_xm (h : XM l y bytes mL rt D Y (AC z ac ap) (EC (AC z ac ap) tE mi) fr lo mc ms av (CA D Y (AC z ac ap) tE ad F G N Q) (some (.int v)) k (CA D Y (AC z ac ap) tE ad F' G' N' Q')) :
    XM l y bytes mL rt D Y (fun q => z ≤ q) (EC (fun q => z ≤ q) tE mi) fr lo mc ms av (LV D Y z tE ac ap ad F G N Q cf pf) (some (.int v)) k (LV D Y z tE ac ap ad F' G' N' Q' cf pf) :=
  h.sub (fun q h => h.1.1) (fun U h => h.narrow (fun q z9 => z9.1.1)) (EC.closed _ tE mi) (fun H h => ⟨h.1, fun q h1 h2 => ⟨⟨h2, fun e9 => by have := h.lt.1; omega⟩, fun e9 => by have := h.lt.2; omega⟩⟩) (fun H H' h h' h1 h2 => ⟨h', h.rows h2⟩)
theorem l_ex {Ω : Heap → Prop} {P : Prop} (C0 : CX p l s m args meth c own cc nL ret D Y (fun q => z ≤ q) E) (h : ∀ H, Ω H → P) (kk : P → J p l e R s m args below meth c (fun q => z ≤ q) nL Q9 Ω cells slots pc L st) : J p l e R s m args below meth c (fun q => z ≤ q) nL Q9 Ω cells slots pc L st := j_get_fact h kk
end
section
variable {p : Program} {l : Launch} {e : Env} {R : Room} {s : State} {m : MethodId} {args : Array Value} {below : List Frame} {meth : Method} {c : Code} {Q : State → Prop} {Ω : Heap → Prop} {cells slots pc nL : Nat} {L : List (Nat × Value)} {st : List Value} {own : String} {cc : ByteArray} {ret : Option FieldType} {D : va_G} {Y : Nat → ClassId} {A : Nat → Prop} {E : State → Prop} {b Ls : Nat} {xs : Nat → Int32}
theorem j_sld (C0 : CX p l s m args meth c own cc nL ret D Y A E) (hX : va_X b Ls xs s s.heap) (hbl : b < s.heap.size) (hbA : ¬ A b) {i : Int32} {x : Int32} (hin : vp_in i Ls) (hx : xs i.toNatClampNeg = x) (d : decode cc pc = .ok (.iaload, 1)) (kk : J p l e R s m args below meth c A nL Q Ω cells slots (pc + 1) L (.int x :: st)) : J p l e R s m args below meth c A nL Q Ω cells slots pc L (.int i :: .ref b :: st) := fun H locs ls h1 h2 h3 h4 => va_sld C0.1 C0.2.1 hX hbl hbA h2 hin d (by rw [hx]; exact kk H locs ls h1 h2 h3 h4)
theorem j_slen (C0 : CX p l s m args meth c own cc nL ret D Y A E) (hX : va_X b Ls xs s s.heap) (hbl : b < s.heap.size) (hbA : ¬ A b) (d : decode cc pc = .ok (.arraylength, 1)) (kk : J p l e R s m args below meth c A nL Q Ω cells slots (pc + 1) L (.int (nI Ls) :: st)) : J p l e R s m args below meth c A nL Q Ω cells slots pc L (.ref b :: st) := fun H locs ls h1 h2 h3 h4 => va_slen C0.1 C0.2.1 hX hbl hbA h2 d (kk H locs ls h1 h2 h3 h4)
theorem j_tabIn (C0 : CX p l s m args meth c own cc nL ret D Y A E) {dflt lo hi : Int} {offs : Array Int} {len : Nat} {x : Int32} {off : Int} (tgt : Nat) (d : decode cc pc = .ok (.tableswitch dflt lo hi offs, len)) (h1 : ¬ x.toInt < lo) (h2 : ¬ hi < x.toInt) (ho : offs[(x.toInt - lo).toNat]? = some off) (ht : (pc : Int) + off = (tgt : Int)) (kk : J p l e R s m args below meth c A nL Q Ω cells slots tgt L st) : J p l e R s m args below meth c A nL Q Ω cells slots pc L (.int x :: st) := fun H locs ls a1 a2 a3 a4 => lv_tableIn C0.1 C0.2.1 d h1 h2 ho ht (kk H locs ls a1 a2 a3 a4)
theorem j_tabOut (C0 : CX p l s m args meth c own cc nL ret D Y A E) {dflt lo hi : Int} {offs : Array Int} {len : Nat} {x : Int32} (tgt : Nat) (d : decode cc pc = .ok (.tableswitch dflt lo hi offs, len)) (h : x.toInt < lo ∨ hi < x.toInt) (ht : (pc : Int) + dflt = (tgt : Int)) (kk : J p l e R s m args below meth c A nL Q Ω cells slots tgt L st) : J p l e R s m args below meth c A nL Q Ω cells slots pc L (.int x :: st) := fun H locs ls a1 a2 a3 a4 => lv_tableOut C0.1 C0.2.1 d h ht (kk H locs ls a1 a2 a3 a4)
end
