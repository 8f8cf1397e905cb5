theorem onw_ot {w : Cond} (h : onw w = true) : w.onTables = true := by
  cases w <;> first
    | rfl
    | (exfalso; exact Bool.noConfusion h)
def exN : Nat → String
  | 1 => "java/lang/IndexOutOfBoundsException"
  | 2 => "java/lang/IllegalArgumentException"
  | _ => "java/lang/IllegalStateException"
theorem NW.grow {D : va_G} {A : Nat → Prop} {cel : NMs} {H H' : Heap} (h : NW D A cel H) (hq : ∀ q : Nat, q < H.size → H'[q]? = H[q]?) : NW D A cel H' := by
  obtain ⟨ws, pos, h1, hP, hD⟩ := h
  exact ⟨ws, pos, h1, hP.kept (fun k q hk => hq _ (vx_lt hP hk)), hD⟩
/-- a world that stays when the heap grows -/
def GW (Ω : Heap → Prop) : Prop := ∀ H H' : Heap, Ω H → (∀ q : Nat, q < H.size → H'[q]? = H[q]?) → Ω H'
theorem GW.cw {D : va_G} {A : Nat → Prop} {P : NMs → Prop} : GW (CW D A P) := fun _ _ ⟨cel, h1, h2⟩ hq => ⟨cel, h1, h2.grow hq⟩
theorem GW.ex {ι : Type} {Ω : ι → Heap → Prop} (h : ∀ i, GW (Ω i)) : GW (fun H => ∃ i, Ω i H) := fun H H' ⟨i, h1⟩ hq => ⟨i, h i H H' h1 hq⟩
/-- outcomes: k = 0: the answer rv; else the exception exN k; the world behind it -/
def XQ (A : Nat → Prop) (Ω' : Heap → Prop) (rv : Option Value) (k : Nat) : Array Value → State → Outcome → State → Prop := fun _ st oc t => k = 0 ∧ oc = .returned rv ∧ Ω' t.heap ∧ va_F A st t
def XX (A : Nat → Prop) (Ω' : Heap → Prop) (k : Nat) : String → State → State → Prop := fun E st t => k ≠ 0 ∧ E = exN k ∧ Ω' t.heap ∧ va_F A st t
abbrev XP (below : List Frame) (A : Nat → Prop) (Ω' : Heap → Prop) (rv : Option Value) (k : Nat) (args : Array Value) (s : State) (mc ms : Nat) : State → Prop := vx_MQ below (XQ A Ω' rv k) (XX A Ω' k) args s mc ms A
def XM (l : Launch) (y : MethodName) (bytes : ByteArray) (mL : Nat) (rt : Option FieldType) (D : va_G) (Y : Nat → ClassId) (A : Nat → Prop) (E : State → Prop) (fr lo mc ms : Nat) (av : List Value) (Ω : Heap → Prop) (rv : Option Value) (k : Nat) (Ω' : Heap → Prop) : Prop :=
  vx_Met l y (Cond.code y bytes mL rt :: TB) { frames := fr, cells := mc, slots := ms, locals := lo } (fun v U => v = av.toArray ∧ WS D Y A E U ∧ Ω U.heap) (XQ A Ω' rv k) (XX A Ω' k) mc ms A
theorem XM_of {l : Launch} {y : MethodName} {bytes : ByteArray} {mL : Nat} {rt : Option FieldType} {D : va_G} {Y : Nat → ClassId} {A : Nat → Prop} {E : State → Prop} {fr lo mc ms : Nat} {av : List Value} {Ω : Heap → Prop} {rv : Option Value} {k : Nat} {Ω' : Heap → Prop} (own : String) (L : List (Nat × Value)) (ho : y.cls = own) (hy : plainName y.cls = true) (hl : l.stackTraces = false) (hav : (lg_sl av).length ≤ mL) (hL : lv_args 0 av = L) (hok : lok L)
    (body : ∀ (p : Program) (e : Env) (s : State) (m : MethodId) (args : Array Value) (below : List Frame) (meth : Method) (c : Code), CX p l s m args meth c own bytes mL rt D Y A E → (∀ x ∈ c.exceptionTable.toList, False) →
      J p l e { frames := fr, cells := mc, slots := ms, locals := lo } s m args below meth c A mL (XP below A Ω' rv k args s mc ms) Ω 0 0 0 L []) : XM l y bytes mL rt D Y A E fr lo mc ms av Ω rv k Ω' := by
  refine vx_ofW (cc := bytes) (maxL := mL) (ret := rt) hy rfl ?_
  intro p e s m args below meth c s₁ B hml hex hv
  obtain ⟨rfl, hW, hΩ⟩ := hv
  have hts := atoms_spec (ws := Cond.code y bytes mL rt :: TB) B.pre
  have C0 : CX p l s m av.toArray meth c own bytes mL rt D Y A E := ⟨B.exec, B.bytes, hml, by rw [← ho]; exact findClass_of_methodNamed B.named, fun w hw => hts w (List.mem_cons_of_mem _ hw), B.returns, B.notSynchronized, hW, hl⟩
  rw [lg_entry_eq]
  have h3 := lv_entry av (n := mL) hav
  rw [hL] at h3
  exact body p e s m _ below meth c C0 hex s.heap [] _ hΩ va_S.rf h3 hok
theorem XM.hide {ι : Type} {l : Launch} {y : MethodName} {bytes : ByteArray} {mL : Nat} {rt : Option FieldType} {D : va_G} {Y : Nat → ClassId} {A : Nat → Prop} {E : State → Prop} {fr lo mc ms : Nat} {av : List Value} {Ω Ω' : ι → Heap → Prop} {rv : Option Value} {k : Nat} (h : ∀ i, XM l y bytes mL rt D Y A E fr lo mc ms av (Ω i) rv k (Ω' i)) : XM l y bytes mL rt D Y A E fr lo mc ms av (fun H => ∃ i, Ω i H) rv k (fun H => ∃ i, Ω' i H) := by
  intro p e ha hc hk s m args below hf happ hP hK
  obtain ⟨hv, hW, i, hΩ⟩ := hP
  obtain ⟨n, o, h1, h2, h3, h4⟩ := h i p e ha hc hk s m args below hf happ ⟨hv, hW, hΩ⟩ hK
  refine ⟨n, o, h1, h2, h3, ?_⟩
  rcases h4 with ⟨⟨k0, k1, k2, k3⟩, hL⟩ | ⟨q, hq, E, ce, L, ⟨k0, k1, k2, k3⟩, hT⟩
  · exact Or.inl ⟨⟨k0, k1, ⟨i, k2⟩, k3⟩, hL⟩
  · exact Or.inr ⟨q, hq, E, ce, L, ⟨k0, k1, ⟨i, k2⟩, k3⟩, hT⟩
section JX
variable {p : Program} {l : Launch} {e : Env} {R : Room} {s : State} {m : MethodId} {args : Array Value} {below : List Frame} {meth : Method} {c : Code} {Q : State → Prop} {Ω Ω' Ω9 : Heap → Prop} {cells slots pc nL : Nat} {L L' : List (Nat × Value)} {st rest stk : List Value} {own C : String} {cc bytes : ByteArray} {ret rt : Option FieldType} {D : va_G} {Y : Nat → ClassId} {A : Nat → Prop} {E : State → Prop} {y : MethodName} {mL fr lo mc ms n idx : Nat} {rv rv9 : Option Value} {b k k9 tE mi MC MS9 : Nat}
theorem j_xret (hk : k = 0) (hc : cells ≤ MC) (hs : slots ≤ MS9) (kk : J p l e R s m args below meth c A nL (MQ below (KQ A Ω' rv) args s MC MS9 A) Ω MC MS9 pc L st) : J p l e R s m args below meth c A nL (XP below A Ω' rv k args s MC MS9) Ω cells slots pc L st := fun H locs ls a1 a2 a3 a4 => W.widen hc hs (vx_ret (fun T hT X => by
  obtain ⟨t, b1, o, c1, c2, c3, c4⟩ := kk H locs ls a1 a2 a3 a4 T hT X
  exact ⟨t, b1, o, c1, c2, ⟨hk, c3⟩, c4⟩))
theorem j_throw (C0 : CX p l s m args meth c RX6 cc nL ret D Y A E) (hexc : ∀ x ∈ c.exceptionTable.toList, False) (hE : ∀ U, E U → EC A tE mi U) {cls text : String} {ik is ic : Nat} {names : List String} {ps : List Nat} (hcls : Bundle.fit cls = true) (hnames : ∀ n ∈ names, Bundle.fit n = true) (hat : Cond.classLink RX6 ik cls :: Cond.initialized cls :: vx_atS RX6 ic cls names = ps.filterMap (fun i => lw_tbl[i]?)) (hag : ((Cond.classLink RX6 ik cls :: Cond.initialized cls :: vx_atS RX6 ic cls names).all fun w => vx_ot w && (goodWord w || onw w)) = true) (htx : (is, text) ∈ TXs)
    (d0 : decode cc pc = .ok (.new ik, 3)) (d3 : decode cc (pc + 3) = .ok (.dup, 1)) (d4 : decode cc (pc + 4) = .ok (.ldc is, 2)) (d6 : decode cc (pc + 6) = .ok (.invokespecial ic, 3)) (d9 : decode cc (pc + 9) = .ok (.athrow, 1))
    (hk : k ≠ 0) (hkn : exN k = cls) (hg : GW Ω) (hw : ∀ H, Ω H → Ω' H) (hfr : names.length + 3 < R.frames) (hlo : (st.map fun v => v.category).sum + (13 * (names.length + 1) + 43) ≤ R.locals) (hRc : cells + 1 ≤ R.cells) (hRs : slots + 6 ≤ R.slots) (hc : cells + 1 ≤ MC) (hs : slots + 6 ≤ MS9) : J p l e R s m args below meth c A nL (XP below A Ω' rv k args s MC MS9) Ω cells slots pc L st := fun H locs ls h1 h2 h3 h4 => by
  have hEC := hE s C0.2.2.2.2.2.2.2.1.2.2.1
  obtain ⟨sa, hsa⟩ := hEC.2.2.2.2.2.2.2 _ htx
  have hall : ∀ w ∈ Cond.classLink RX6 ik cls :: Cond.initialized cls :: vx_atS RX6 ic cls names, w.before args s = true ∧ vx_ot w = true := by
    intro w hw
    have h5 := List.all_eq_true.mp hag w hw
    simp only [Bool.and_eq_true, Bool.or_eq_true] at h5
    rw [hat] at hw
    obtain ⟨i, -, hi⟩ := List.mem_filterMap.mp hw
    have hm : w ∈ lw_tbl := List.mem_of_getElem? hi
    refine ⟨?_, h5.1⟩
    rcases h5.2 with g | g
    · exact C0.2.2.2.2.1 w (TB_in hm g)
    · exact va_Nw.use (onw_ot g) (hEC.2.2.2.2.1 w (XB_in hm g))
  refine vx_throwS (own := RX6) (cls := cls) (text := text) (names := names) (ik := ik) (is := is) (ic := ic) (sa := sa) (A := A) C0.1 C0.2.1 C0.2.2.2.2.2.2.2.2 C0.2.2.2.1 hcls hnames (hall _ List.mem_cons_self).1 (hall _ (List.mem_cons_of_mem _ List.mem_cons_self)).1 hsa (fun w hw => (hall w (List.mem_cons_of_mem _ (List.mem_cons_of_mem _ hw))).1) (fun w hw => (hall w hw).2) hEC.2.2.2.2.2.1 hEC.2.2.2.2.2.2.1 h2 (h3.1.trans C0.2.2.1.symm) d0 d3 d4 d6 d9 (fun x hx => (hexc x hx).elim) hfr hlo hRc hRs C0.2.2.2.2.2.2.1 ?_ h2.2.2 hc hs
  intro t hal hz hq
  exact ⟨hk, hkn.symm, hw _ (hg H t.heap h1 hq), Nat.le_trans h2.1 hz, fun q k1 k2 => (hq q (Nat.lt_of_lt_of_le k1 h2.1)).trans (h2.2.1 q k1 k2)⟩
theorem hb_xcall {H : Heap} {locs : List Loc} {ls : Array Slot} {a : Array Value} {st0 : List Value} (hr : vx_Run p l e R s m args below meth c H locs cells slots mc ms (F0 m pc ls st0) rest (XQ A Ω9 rv9 k9 a) (XX A Ω9 k9) A) (hS : va_S A s.heap H locs)
    (kx : k9 ≠ 0 → ∀ (H1 : Heap) (locs1 : List Loc) (ce : Cell) (q : Addr), Ω9 H1 → va_S A s.heap H1 locs1 → H1[q]? = some ce → ce.vm = .none → s.vm.findClass (exN k9) = some ce.cls → vx_W p l e R s m args below meth c H1 locs1 (cells + mc) (slots + ms) Q (F0 m pc ls rest) q)
    (kk : k9 = 0 → ∀ (H1 : Heap) (locs1 : List Loc), Ω9 H1 → va_S A s.heap H1 locs1 → W p l e R s m args below meth c H1 locs1 (cells + mc) (slots + ms) Q (F0 m (pc + 3) ls (rv9.toList ++ rest))) : W p l e R s m args below meth c H locs cells slots Q (F0 m pc ls st0) := by
  intro T hT X
  have hS2 : ∀ {T' t : State} {st₀ : State} {Ls : List Loc}, st₀.heap = H → T'.heap = t.heap → va_F A st₀ t → (∀ q ∈ Ls, A q.base) → va_S A s.heap T'.heap (locs ++ Ls) := by
    intro T' t st₀ Ls h0 e1 hF hL
    obtain ⟨hz, hk⟩ := hF
    rw [h0] at hz hk
    exact ⟨Nat.le_trans hS.1 (by rw [e1]; exact hz), fun q h1 h2 => by rw [e1, hk q (Nat.lt_of_lt_of_le h1 hS.1) h2]; exact hS.2.1 q h1 h2, fun q hq => by
      rcases List.mem_append.mp hq with h | h
      · exact hS.2.2 q h
      · exact hL q h⟩
  rcases hr T hT X with ⟨v, st₀, t, T', Ls, h0, X', hL, e1, e2, ⟨k0, hv, hΩ, hF⟩, sT⟩ | ⟨q, st₀, t, T', Ls, E9, ce, h0, X', hL, e1, e2, ⟨k0, hE9, hΩ, hF⟩, hce, hcv, hcl, sT⟩
  · cases hv
    obtain ⟨t2, a1, b1⟩ := kk k0 T'.heap (locs ++ Ls) (by rw [e1]; exact hΩ) (hS2 h0 e1 hF hL) T' rfl X'
    exact ⟨t2, sT t2 a1, b1⟩
  · subst hE9
    obtain ⟨t2, a1, b1⟩ := kx k0 T'.heap (locs ++ Ls) ce q (by rw [e1]; exact hΩ) (hS2 h0 e1 hF hL) (by rw [e1]; exact hce) hcv hcl T' rfl X'
    exact ⟨t2, sT.trans a1, b1⟩
theorem j_xcallS (C0 : CX p l s m args meth c own cc nL ret D Y A E) (hexc : ∀ x ∈ c.exceptionTable.toList, False) {As : List Value} (hM : XM l y bytes mL rt D Y A E fr lo mc ms As Ω rv9 k9 Ω9) (hw : MS y bytes mL rt n) (hl : Cond.methodLink own idx y ∈ TB) (hn : As.length = n) (hst : stk = As.reverse ++ rest) (hR : fr + 1 ≤ R.frames ∧ 8 + (mL + 11) + lo ≤ R.locals) (hc : (rest.map fun v => v.category).sum ≤ 8) (hf : cells + mc ≤ R.cells ∧ slots + ms ≤ R.slots) (d : decode cc pc = .ok (.invokestatic idx, 3)) (hcM : cells + mc ≤ MC ∧ slots + ms ≤ MS9)
    (kx : k9 ≠ 0 → k = k9 ∧ ∀ H, Ω9 H → Ω' H) (kk : k9 = 0 → J p l e R s m args below meth c A nL (XP below A Ω' rv k args s MC MS9) Ω9 (cells + mc) (slots + ms) (pc + 3) L (rv9.toList ++ rest)) : J p l e R s m args below meth c A nL (XP below A Ω' rv k args s MC MS9) Ω cells slots pc L stk := by
  intro H locs ls h1 h2 h3 h4
  subst hst
  exact hb_xcall (a := As.toArray) (vx_runS (As := As) (rest := rest) ⟨C0.1, C0.2.1, C0.2.2.1, C0.2.2.2.1, C0.2.2.2.2.1⟩ hM (va_cwS n C0.2.2.2.2.1 (hw.good hl) rfl rfl rfl hw.2.2.2 hR) ⟨KM.blind (l := l), fun U hU hW => ⟨rfl, C0.pre h2 hU hW, by rw [hU]; exact h1⟩⟩ rfl hn h3.1 rfl (lv_room hc) d hf) h2
    (fun k0 H1 locs1 ce q g1 g2 g3 g4 g5 => vx_out (fun x hx => (hexc x hx).elim) C0.2.2.2.2.2.2.1 g3 g4 g5 (fun t ht _ => ⟨fun z => k0 ((kx k0).1 ▸ z), by rw [(kx k0).1], by rw [ht]; exact (kx k0).2 _ g1, g2.F ht⟩) g2.2.2 hcM.1 hcM.2)
    (fun k0 H1 locs1 g1 g2 => kk k0 H1 locs1 ls g1 g2 h3 h4)
theorem j_xcallV (C0 : CX p l s m args meth c own cc nL ret D Y A E) (hexc : ∀ x ∈ c.exceptionTable.toList, False) {As : List Value} (hM : XM l y bytes mL rt D Y A E fr lo mc ms (.ref b :: As) Ω rv9 k9 Ω9) (hw : MV C y bytes mL rt n) (hl : Cond.methodLink own idx y ∈ TB) (hrec : RV s Ω C b) (hn : As.length = n) (hst : stk = As.reverse ++ .ref b :: rest) (hR : fr + 1 ≤ R.frames ∧ 8 + (mL + 11) + lo ≤ R.locals) (hc : (rest.map fun v => v.category).sum ≤ 8) (hf : cells + mc ≤ R.cells ∧ slots + ms ≤ R.slots) (d : decode cc pc = .ok (.invokevirtual idx, 3)) (hcM : cells + mc ≤ MC ∧ slots + ms ≤ MS9)
    (kx : k9 ≠ 0 → k = k9 ∧ ∀ H, Ω9 H → Ω' H) (kk : k9 = 0 → J p l e R s m args below meth c A nL (XP below A Ω' rv k args s MC MS9) Ω9 (cells + mc) (slots + ms) (pc + 3) L (rv9.toList ++ rest)) : J p l e R s m args below meth c A nL (XP below A Ω' rv k args s MC MS9) Ω cells slots pc L stk := by
  intro H locs ls h1 h2 h3 h4
  subst hst
  exact hb_xcall (a := (.ref b :: As).toArray) (vx_runV (As := As) (rest := rest) ⟨C0.1, C0.2.1, C0.2.2.1, C0.2.2.2.1, C0.2.2.2.2.1⟩ hM (cwV n C0.2.2.2.2.1 (hw.good hl) rfl rfl rfl hw.2.2.2.2 hR) ⟨KM.blind (l := l), hrec H h1, fun U hU hW => ⟨rfl, C0.pre h2 hU hW, by rw [hU]; exact h1⟩⟩ rfl hn h3.1 rfl (lv_room hc) d hf) h2
    (fun k0 H1 locs1 ce q g1 g2 g3 g4 g5 => vx_out (fun x hx => (hexc x hx).elim) C0.2.2.2.2.2.2.1 g3 g4 g5 (fun t ht _ => ⟨fun z => k0 ((kx k0).1 ▸ z), by rw [(kx k0).1], by rw [ht]; exact (kx k0).2 _ g1, g2.F ht⟩) g2.2.2 hcM.1 hcM.2)
    (fun k0 H1 locs1 g1 g2 => kk k0 H1 locs1 ls g1 g2 h3 h4)
end JX
