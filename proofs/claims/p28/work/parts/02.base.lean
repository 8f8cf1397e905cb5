/-! THE LAYER: a method's walk over a world that is a predicate on heaps; locals as a list; the static things in one hypothesis. -/
def TB : List Cond := lw_tbl.filter goodWord
theorem TB_in {w : Cond} (h : w ∈ lw_tbl) (g : goodWord w = true) : w ∈ TB := List.mem_filter.mpr ⟨h, g⟩
theorem TB_good {w : Cond} (h : w ∈ TB) : (w.onTables && w.keeps) = true ∨ ∃ ty, w = .arrayClass ty := good_of_word (List.mem_filter.mp h).2
theorem TB_sub {ws : List Cond} (h : ∀ w ∈ ws, w ∈ TB) : GoodIn TB ws := fun w hw => ⟨h w hw, TB_good (h w hw)⟩
theorem TB_all {args : Array Value} {s : State} (h : ∀ w ∈ lw_tbl, w.before args s = true) : ∀ w ∈ TB, w.before args s = true := fun w hw => h w (List.mem_filter.mp hw).1
/-- the arrays' classes: int (thrice), Object -/
abbrev hbT (Y : Nat → ClassId) : List (ClassId × FieldType) := [(Y 0, .int), (Y 1, .int), (Y 2, .object "java/lang/Object"), (Y 3, .int)]
/-- E speaks of the tables and of cells outside A alone -/
def hbC (A : Nat → Prop) (E : State → Prop) : Prop := ∀ s U : State, E s → s.WarmedH U.vm → (∀ q : Nat, q < s.heap.size → ¬ A q → U.heap[q]? = s.heap[q]?) → E U
def WS (D : va_G) (Y : Nat → ClassId) (A : Nat → Prop) (E : State → Prop) (U : State) : Prop := (∀ q : Nat, U.heap.size ≤ q → A q) ∧ va_K D vwCl (hbT Y) U ∧ E U ∧ hbC A E
theorem WS.moved {D : va_G} {Y : Nat → ClassId} {A : Nat → Prop} {E : State → Prop} {s U : State} (h : WS D Y A E s) (hvm : s.WarmedH U.vm) (hz : s.heap.size ≤ U.heap.size) (hq : ∀ q : Nat, q < s.heap.size → ¬ A q → U.heap[q]? = s.heap[q]?) : WS D Y A E U :=
  ⟨fun q h1 => h.1 q (Nat.le_trans hz h1), va_K.moved hvm.alike h.2.1, h.2.2.2 s U h.2.2.1 hvm hq, h.2.2.2⟩
/-- the locals' list: the value at a place, and a new value at a place -/
def lk : List (Nat × Value) → Nat → Option Value
  | [], _ => none
  | (j, v) :: r, i => match Nat.beq j i with
    | true => some v
    | false => lk r i
def lset : List (Nat × Value) → Nat → Value → List (Nat × Value)
  | [], i, v => [(i, v)]
  | (j, w) :: r, i, v => match Nat.beq j i with
    | true => (i, v) :: r
    | false => (j, w) :: lset r i v
theorem lk_mem : ∀ {L : List (Nat × Value)} {i : Nat} {v : Value}, lk L i = some v → (i, v) ∈ L
  | [], i, v, h => by cases h
  | (j, w) :: r, i, v, h => by
    unfold lk at h
    split at h
    · rename_i hb
      have := Nat.eq_of_beq_eq_true hb
      subst this
      cases h
      exact List.mem_cons_self
    · exact List.mem_cons_of_mem _ (lk_mem h)
theorem lset_mem : ∀ {L : List (Nat × Value)} {i : Nat} {v : Value} {q : Nat × Value}, q ∈ lset L i v → q = (i, v) ∨ (q ∈ L ∧ q.1 ≠ i) ∨ (q ∈ L ∧ q.1 = i)
  | [], i, v, q, h => by
    rcases List.mem_cons.mp h with h | h
    · exact Or.inl h
    · cases h
  | (j, w) :: r, i, v, q, h => by
    unfold lset at h
    split at h
    · rcases List.mem_cons.mp h with h | h
      · exact Or.inl h
      · by_cases e : q.1 = i
        · exact Or.inr (Or.inr ⟨List.mem_cons_of_mem _ h, e⟩)
        · exact Or.inr (Or.inl ⟨List.mem_cons_of_mem _ h, e⟩)
    · rename_i hb
      rcases List.mem_cons.mp h with h | h
      · by_cases e : q.1 = i
        · exact Or.inr (Or.inr ⟨by rw [h]; exact List.mem_cons_self, e⟩)
        · exact Or.inr (Or.inl ⟨by rw [h]; exact List.mem_cons_self, e⟩)
      · rcases lset_mem h with h | ⟨h, e⟩ | ⟨h, e⟩
        · exact Or.inl h
        · exact Or.inr (Or.inl ⟨List.mem_cons_of_mem _ h, e⟩)
        · exact Or.inr (Or.inr ⟨List.mem_cons_of_mem _ h, e⟩)
/-- each place once -/
def lnd : List (Nat × Value) → Bool
  | [] => true
  | (j, _) :: r => (r.all fun q => !(Nat.beq q.1 j)) && lnd r
theorem lset_of : ∀ {L : List (Nat × Value)} {i : Nat} {v : Value}, lnd L = true → (∀ q ∈ L, q.2.category = 1) → ∀ q ∈ lset L i v, q ∈ (i, v) :: L.filter (fun q => !(q.1 == i) && !(q.1 + 1 == i && q.2.category == 2))
  | [], i, v, _, _, q, h => by
    rcases List.mem_cons.mp h with h | h
    · rw [h]; exact List.mem_cons_self
    · cases h
  | (j, w) :: r, i, v, hn, hc, q, h => by
    simp only [lnd, Bool.and_eq_true, List.all_eq_true] at hn
    unfold lset at h
    split at h
    · rename_i hb
      have e := Nat.eq_of_beq_eq_true hb
      subst e
      rcases List.mem_cons.mp h with h | h
      · rw [h]; exact List.mem_cons_self
      · refine List.mem_cons_of_mem _ (List.mem_filter.mpr ⟨List.mem_cons_of_mem _ h, ?_⟩)
        have h1 := hn.1 q h
        have h2 := hc q (List.mem_cons_of_mem _ h)
        have h3 : q.1 ≠ j := fun z => by rw [z, Nat.beq_refl] at h1; cases h1
        simp [h2, h3]
    · rename_i hb
      have e : j ≠ i := fun z => by rw [z, Nat.beq_refl] at hb; cases hb
      rcases List.mem_cons.mp h with h | h
      · refine List.mem_cons_of_mem _ (List.mem_filter.mpr ⟨by rw [h]; exact List.mem_cons_self, ?_⟩)
        have h2 := hc (j, w) List.mem_cons_self
        subst h
        simp at h2
        simp [h2, e]
      · have h5 := lset_of (i := i) (v := v) hn.2 (fun q hq => hc q (List.mem_cons_of_mem _ hq)) q h
        rcases List.mem_cons.mp h5 with h5 | h5
        · rw [h5]; exact List.mem_cons_self
        · have h6 := List.mem_filter.mp h5
          exact List.mem_cons_of_mem _ (List.mem_filter.mpr ⟨List.mem_cons_of_mem _ h6.1, h6.2⟩)
/-- the list is well made: each place once, no long -/
def lok (L : List (Nat × Value)) : Prop := lnd L = true ∧ ∀ q ∈ L, q.2.category = 1
theorem lset_nd : ∀ {L : List (Nat × Value)} {i : Nat} {v : Value}, lnd L = true → lnd (lset L i v) = true ∧ ∀ j : Nat, (L.all fun q => !(Nat.beq q.1 j)) = true → Nat.beq i j = false → ((lset L i v).all fun q => !(Nat.beq q.1 j)) = true
  | [], i, v, _ => ⟨rfl, fun j _ h => by simp [lset, h]⟩
  | (k, w) :: r, i, v, hn => by
    simp only [lnd, Bool.and_eq_true] at hn
    have ih := lset_nd (i := i) (v := v) hn.2
    unfold lset
    split
    · rename_i hb
      have e := Nat.eq_of_beq_eq_true hb
      subst e
      refine ⟨by simp only [lnd, Bool.and_eq_true]; exact hn, fun j h1 h2 => ?_⟩
      simp only [List.all_cons, Bool.and_eq_true] at h1 ⊢
      exact ⟨by simp [h2], h1.2⟩
    · rename_i hb
      refine ⟨?_, fun j h1 h2 => ?_⟩
      · simp only [lnd, Bool.and_eq_true]
        refine ⟨ih.2 k hn.1 ?_, ih.1⟩
        cases hz : Nat.beq i k with
        | false => rfl
        | true =>
          have e := Nat.eq_of_beq_eq_true hz
          rw [e, Nat.beq_refl] at hb
          cases hb
      · simp only [List.all_cons, Bool.and_eq_true] at h1 ⊢
        exact ⟨h1.1, ih.2 j h1.2 h2⟩
theorem lok.set {L : List (Nat × Value)} {i : Nat} {v : Value} (h : lok L) (hv : v.category = 1) : lok (lset L i v) :=
  ⟨(lset_nd h.1).1, fun q hq => by
    rcases lset_mem hq with e | ⟨e, -⟩ | ⟨e, -⟩
    · rw [e]; exact hv
    · exact h.2 q e
    · exact h.2 q e⟩
theorem lset_has {ls : Array Slot} {nL : Nat} {L : List (Nat × Value)} {i : Nat} {v : Value} (hk : lok L) (h : lv_has ls nL ((i, v) :: L.filter (fun q => !(q.1 == i) && !(q.1 + 1 == i && q.2.category == 2)))) : lv_has ls nL (lset L i v) :=
  ⟨h.1, h.2.1, fun q hq => h.2.2 q (lset_of hk.1 hk.2 q hq)⟩
/-- the static things of a running method -/
def CX (p : Program) (l : Launch) (s : State) (m : MethodId) (args : Array Value) (meth : Method) (c : Code) (own : String) (cc : ByteArray) (nL : Nat) (ret : Option FieldType) (D : va_G) (Y : Nat → ClassId) (A : Nat → Prop) (E : State → Prop) : Prop :=
  p.tables.exec = Jvm.exec ∧ c.code = cc ∧ c.maxLocals = nL ∧ s.vm.findClass own = some m.cls ∧ (∀ w ∈ TB, w.before args s = true) ∧ meth.sig.returnType = ret ∧ meth.locks = false ∧ WS D Y A E s ∧ l.stackTraces = false
/-- the walk stands at pc with these locals and this stack, in a heap of which the world holds -/
def J (p : Program) (l : Launch) (e : Env) (R : Room) (s : State) (m : MethodId) (args : Array Value) (below : List Frame) (meth : Method) (c : Code) (A : Nat → Prop) (nL : Nat) (Q : State → Prop) (Ω : Heap → Prop) (cells slots : Nat) (pc : Nat) (L : List (Nat × Value)) (st : List Value) : Prop :=
  ∀ (H : Heap) (locs : List Loc) (ls : Array Slot), Ω H → va_S A s.heap H locs → lv_has ls nL L → lok L → W p l e R s m args below meth c H locs cells slots Q (F0 m pc ls st)
/-- a world of listed cells -/
def Ow (D : va_G) (A : Nat → Prop) (ws : va_W) : Heap → Prop := fun H => va_P D vwCl ws H ∧ va_D A ws

section JR
variable {p : Program} {l : Launch} {e : Env} {R : Room} {s : State} {m : MethodId} {args : Array Value} {below : List Frame} {meth : Method} {c : Code} {Q : State → Prop} {Ω Ω' : Heap → Prop} {cells slots pc nL : Nat} {L L' : List (Nat × Value)} {st rest : List Value} {own : String} {cc : ByteArray} {ret : Option FieldType} {D : va_G} {Y : Nat → ClassId} {A : Nat → Prop} {E : State → Prop}

theorem j_iconst (C0 : CX p l s m args meth c own cc nL ret D Y A E) {n : Int} {v : Int32} (d : decode cc pc = .ok (.iconst n, 1)) (hv : Int32.ofInt n = v) (kk : J p l e R s m args below meth c A nL Q Ω cells slots (pc + 1) L (.int v :: st)) : J p l e R s m args below meth c A nL Q Ω cells slots pc L st := fun H locs ls h1 h2 h3 h4 => lv_iconst C0.1 C0.2.1 d hv (kk H locs ls h1 h2 h3 h4)
theorem j_bipush (C0 : CX p l s m args meth c own cc nL ret D Y A E) {n : Int} {v : Int32} (d : decode cc pc = .ok (.bipush n, 2)) (hv : (Int8.ofInt n).toInt32 = v) (kk : J p l e R s m args below meth c A nL Q Ω cells slots (pc + 2) L (.int v :: st)) : J p l e R s m args below meth c A nL Q Ω cells slots pc L st := fun H locs ls h1 h2 h3 h4 => lv_bipush C0.1 C0.2.1 d hv (kk H locs ls h1 h2 h3 h4)
theorem j_sipush (C0 : CX p l s m args meth c own cc nL ret D Y A E) {n : Int} {v : Int32} (d : decode cc pc = .ok (.sipush n, 3)) (hv : (Int16.ofInt n).toInt32 = v) (kk : J p l e R s m args below meth c A nL Q Ω cells slots (pc + 3) L (.int v :: st)) : J p l e R s m args below meth c A nL Q Ω cells slots pc L st := fun H locs ls h1 h2 h3 h4 => lv_sipush C0.1 C0.2.1 d hv (kk H locs ls h1 h2 h3 h4)
theorem j_lconst (C0 : CX p l s m args meth c own cc nL ret D Y A E) {n : Fin 2} {v : Int64} (d : decode cc pc = .ok (.lconst n, 1)) (hv : Int64.ofNat (n : Nat) = v) (kk : J p l e R s m args below meth c A nL Q Ω cells slots (pc + 1) L (.long v :: st)) : J p l e R s m args below meth c A nL Q Ω cells slots pc L st := fun H locs ls h1 h2 h3 h4 => lv_lconst C0.1 C0.2.1 d hv (kk H locs ls h1 h2 h3 h4)
theorem j_iload_n (C0 : CX p l s m args meth c own cc nL ret D Y A E) {k : Fin 4} {x : Int32} (d : decode cc pc = .ok (.iload_n k, 1)) (h : lk L (k : Nat) = some (.int x)) (kk : J p l e R s m args below meth c A nL Q Ω cells slots (pc + 1) L (.int x :: st)) : J p l e R s m args below meth c A nL Q Ω cells slots pc L st := fun H locs ls h1 h2 h3 h4 => lv_iload_n C0.1 C0.2.1 d rfl (h3.2.2 _ (lk_mem h)) (kk H locs ls h1 h2 h3 h4)
theorem j_iload (C0 : CX p l s m args meth c own cc nL ret D Y A E) {i : Nat} {x : Int32} (d : decode cc pc = .ok (.iload i, 2)) (h : lk L i = some (.int x)) (kk : J p l e R s m args below meth c A nL Q Ω cells slots (pc + 2) L (.int x :: st)) : J p l e R s m args below meth c A nL Q Ω cells slots pc L st := fun H locs ls h1 h2 h3 h4 => lv_iload C0.1 C0.2.1 d (h3.2.2 _ (lk_mem h)) (kk H locs ls h1 h2 h3 h4)
theorem j_aload_n (C0 : CX p l s m args meth c own cc nL ret D Y A E) {k : Fin 4} {x : Nat} (d : decode cc pc = .ok (.aload_n k, 1)) (h : lk L (k : Nat) = some (.ref x)) (kk : J p l e R s m args below meth c A nL Q Ω cells slots (pc + 1) L (.ref x :: st)) : J p l e R s m args below meth c A nL Q Ω cells slots pc L st := fun H locs ls h1 h2 h3 h4 => lv_aload_n C0.1 C0.2.1 d rfl (h3.2.2 _ (lk_mem h)) (kk H locs ls h1 h2 h3 h4)
theorem j_aload (C0 : CX p l s m args meth c own cc nL ret D Y A E) {i : Nat} {x : Nat} (d : decode cc pc = .ok (.aload i, 2)) (h : lk L i = some (.ref x)) (kk : J p l e R s m args below meth c A nL Q Ω cells slots (pc + 2) L (.ref x :: st)) : J p l e R s m args below meth c A nL Q Ω cells slots pc L st := fun H locs ls h1 h2 h3 h4 => lv_aload C0.1 C0.2.1 d (h3.2.2 _ (lk_mem h)) (kk H locs ls h1 h2 h3 h4)
theorem j_istore_n (C0 : CX p l s m args meth c own cc nL ret D Y A E) {k : Fin 4} {x : Int32} (d : decode cc pc = .ok (.istore_n k, 1)) (hn : (k : Nat) < nL) (hL : lset L (k : Nat) (.int x) = L') (kk : J p l e R s m args below meth c A nL Q Ω cells slots (pc + 1) L' st) : J p l e R s m args below meth c A nL Q Ω cells slots pc L (.int x :: st) := fun H locs ls h1 h2 h3 h4 => lv_istore_n C0.1 C0.2.1 d rfl h3 hn rfl (fun ls' h' => kk H locs ls' h1 h2 (hL ▸ lset_has h4 h') (hL ▸ h4.set rfl))
theorem j_istore (C0 : CX p l s m args meth c own cc nL ret D Y A E) {i : Nat} {x : Int32} (d : decode cc pc = .ok (.istore i, 2)) (hn : i < nL) (hL : lset L i (.int x) = L') (kk : J p l e R s m args below meth c A nL Q Ω cells slots (pc + 2) L' st) : J p l e R s m args below meth c A nL Q Ω cells slots pc L (.int x :: st) := fun H locs ls h1 h2 h3 h4 => lv_istore C0.1 C0.2.1 d h3 hn rfl (fun ls' h' => kk H locs ls' h1 h2 (hL ▸ lset_has h4 h') (hL ▸ h4.set rfl))
theorem j_astore_n (C0 : CX p l s m args meth c own cc nL ret D Y A E) {k : Fin 4} {x : Nat} (d : decode cc pc = .ok (.astore_n k, 1)) (hn : (k : Nat) < nL) (hL : lset L (k : Nat) (.ref x) = L') (kk : J p l e R s m args below meth c A nL Q Ω cells slots (pc + 1) L' st) : J p l e R s m args below meth c A nL Q Ω cells slots pc L (.ref x :: st) := fun H locs ls h1 h2 h3 h4 => lv_astore_n C0.1 C0.2.1 d rfl h3 hn rfl (fun ls' h' => kk H locs ls' h1 h2 (hL ▸ lset_has h4 h') (hL ▸ h4.set rfl))
theorem j_astore (C0 : CX p l s m args meth c own cc nL ret D Y A E) {i : Nat} {x : Nat} (d : decode cc pc = .ok (.astore i, 2)) (hn : i < nL) (hL : lset L i (.ref x) = L') (kk : J p l e R s m args below meth c A nL Q Ω cells slots (pc + 2) L' st) : J p l e R s m args below meth c A nL Q Ω cells slots pc L (.ref x :: st) := fun H locs ls h1 h2 h3 h4 => lv_astore C0.1 C0.2.1 d h3 hn rfl (fun ls' h' => kk H locs ls' h1 h2 (hL ▸ lset_has h4 h') (hL ▸ h4.set rfl))
theorem j_iinc (C0 : CX p l s m args meth c own cc nL ret D Y A E) {i : Nat} {n : Int} {x v : Int32} (d : decode cc pc = .ok (.iinc i n, 3)) (h : lk L i = some (.int x)) (hv : x + Int32.ofInt n = v) (hn : i < nL) (hL : lset L i (.int v) = L') (kk : J p l e R s m args below meth c A nL Q Ω cells slots (pc + 3) L' st) : J p l e R s m args below meth c A nL Q Ω cells slots pc L st := by
  intro H locs ls h1 h2 h3 h4
  obtain ⟨k, hk⟩ := List.getElem?_of_mem (lk_mem h)
  exact lv_iinc C0.1 C0.2.1 d h3 hk hv hn rfl (fun ls' h' => kk H locs ls' h1 h2 (hL ▸ lset_has h4 h') (hL ▸ h4.set rfl))
theorem j_iadd (C0 : CX p l s m args meth c own cc nL ret D Y A E) {x y : Int32} (d : decode cc pc = .ok (.iadd, 1)) (kk : J p l e R s m args below meth c A nL Q Ω cells slots (pc + 1) L (.int (x + y) :: st)) : J p l e R s m args below meth c A nL Q Ω cells slots pc L (.int y :: .int x :: st) := fun H locs ls h1 h2 h3 h4 => lv_iadd C0.1 C0.2.1 d (kk H locs ls h1 h2 h3 h4)
theorem j_isub (C0 : CX p l s m args meth c own cc nL ret D Y A E) {x y : Int32} (d : decode cc pc = .ok (.isub, 1)) (kk : J p l e R s m args below meth c A nL Q Ω cells slots (pc + 1) L (.int (x - y) :: st)) : J p l e R s m args below meth c A nL Q Ω cells slots pc L (.int y :: .int x :: st) := fun H locs ls h1 h2 h3 h4 => lv_isub C0.1 C0.2.1 d (kk H locs ls h1 h2 h3 h4)
theorem j_imul (C0 : CX p l s m args meth c own cc nL ret D Y A E) {x y : Int32} (d : decode cc pc = .ok (.imul, 1)) (kk : J p l e R s m args below meth c A nL Q Ω cells slots (pc + 1) L (.int (x * y) :: st)) : J p l e R s m args below meth c A nL Q Ω cells slots pc L (.int y :: .int x :: st) := fun H locs ls h1 h2 h3 h4 => lv_imul C0.1 C0.2.1 d (kk H locs ls h1 h2 h3 h4)
theorem j_iand (C0 : CX p l s m args meth c own cc nL ret D Y A E) {x y : Int32} (d : decode cc pc = .ok (.iand, 1)) (kk : J p l e R s m args below meth c A nL Q Ω cells slots (pc + 1) L (.int (x &&& y) :: st)) : J p l e R s m args below meth c A nL Q Ω cells slots pc L (.int y :: .int x :: st) := fun H locs ls h1 h2 h3 h4 => lv_iand C0.1 C0.2.1 d (kk H locs ls h1 h2 h3 h4)
theorem j_ior (C0 : CX p l s m args meth c own cc nL ret D Y A E) {x y : Int32} (d : decode cc pc = .ok (.ior, 1)) (kk : J p l e R s m args below meth c A nL Q Ω cells slots (pc + 1) L (.int (x ||| y) :: st)) : J p l e R s m args below meth c A nL Q Ω cells slots pc L (.int y :: .int x :: st) := fun H locs ls h1 h2 h3 h4 => lv_ior C0.1 C0.2.1 d (kk H locs ls h1 h2 h3 h4)
theorem j_ixor (C0 : CX p l s m args meth c own cc nL ret D Y A E) {x y : Int32} (d : decode cc pc = .ok (.ixor, 1)) (kk : J p l e R s m args below meth c A nL Q Ω cells slots (pc + 1) L (.int (x ^^^ y) :: st)) : J p l e R s m args below meth c A nL Q Ω cells slots pc L (.int y :: .int x :: st) := fun H locs ls h1 h2 h3 h4 => lv_ixor C0.1 C0.2.1 d (kk H locs ls h1 h2 h3 h4)
theorem j_ishl (C0 : CX p l s m args meth c own cc nL ret D Y A E) {x y : Int32} (d : decode cc pc = .ok (.ishl, 1)) (kk : J p l e R s m args below meth c A nL Q Ω cells slots (pc + 1) L (.int (x <<< (y &&& 31)) :: st)) : J p l e R s m args below meth c A nL Q Ω cells slots pc L (.int y :: .int x :: st) := fun H locs ls h1 h2 h3 h4 => lv_ishl C0.1 C0.2.1 d (kk H locs ls h1 h2 h3 h4)
theorem j_ishr (C0 : CX p l s m args meth c own cc nL ret D Y A E) {x y : Int32} (d : decode cc pc = .ok (.ishr, 1)) (kk : J p l e R s m args below meth c A nL Q Ω cells slots (pc + 1) L (.int (x >>> (y &&& 31)) :: st)) : J p l e R s m args below meth c A nL Q Ω cells slots pc L (.int y :: .int x :: st) := fun H locs ls h1 h2 h3 h4 => lv_ishr C0.1 C0.2.1 d (kk H locs ls h1 h2 h3 h4)
theorem j_idiv (C0 : CX p l s m args meth c own cc nL ret D Y A E) {x y : Int32} (d : decode cc pc = .ok (.idiv, 1)) (hne : ¬ y = 0) (kk : J p l e R s m args below meth c A nL Q Ω cells slots (pc + 1) L (.int (x / y) :: st)) : J p l e R s m args below meth c A nL Q Ω cells slots pc L (.int y :: .int x :: st) := fun H locs ls h1 h2 h3 h4 => lv_idiv C0.1 C0.2.1 d hne (kk H locs ls h1 h2 h3 h4)
theorem j_irem (C0 : CX p l s m args meth c own cc nL ret D Y A E) {x y : Int32} (d : decode cc pc = .ok (.irem, 1)) (hne : ¬ y = 0) (kk : J p l e R s m args below meth c A nL Q Ω cells slots (pc + 1) L (.int (x - x / y * y) :: st)) : J p l e R s m args below meth c A nL Q Ω cells slots pc L (.int y :: .int x :: st) := fun H locs ls h1 h2 h3 h4 => lv_irem C0.1 C0.2.1 d hne (kk H locs ls h1 h2 h3 h4)
theorem j_ineg (C0 : CX p l s m args meth c own cc nL ret D Y A E) {x : Int32} (d : decode cc pc = .ok (.ineg, 1)) (kk : J p l e R s m args below meth c A nL Q Ω cells slots (pc + 1) L (.int (-x) :: st)) : J p l e R s m args below meth c A nL Q Ω cells slots pc L (.int x :: st) := fun H locs ls h1 h2 h3 h4 => lv_ineg C0.1 C0.2.1 d (kk H locs ls h1 h2 h3 h4)
theorem j_i2l (C0 : CX p l s m args meth c own cc nL ret D Y A E) {x : Int32} {v : Int64} (d : decode cc pc = .ok (.i2l, 1)) (hv : x.toInt64 = v) (kk : J p l e R s m args below meth c A nL Q Ω cells slots (pc + 1) L (.long v :: st)) : J p l e R s m args below meth c A nL Q Ω cells slots pc L (.int x :: st) := fun H locs ls h1 h2 h3 h4 => lv_i2l C0.1 C0.2.1 d hv (kk H locs ls h1 h2 h3 h4)
theorem j_dup (C0 : CX p l s m args meth c own cc nL ret D Y A E) {va : Value} (d : decode cc pc = .ok (.dup, 1)) (h : va.category = 1) (kk : J p l e R s m args below meth c A nL Q Ω cells slots (pc + 1) L (va :: va :: st)) : J p l e R s m args below meth c A nL Q Ω cells slots pc L (va :: st) := fun H locs ls h1 h2 h3 h4 => lv_dup C0.1 C0.2.1 d h (kk H locs ls h1 h2 h3 h4)
theorem j_pop (C0 : CX p l s m args meth c own cc nL ret D Y A E) {va : Value} (d : decode cc pc = .ok (.pop, 1)) (h : va.category = 1) (kk : J p l e R s m args below meth c A nL Q Ω cells slots (pc + 1) L st) : J p l e R s m args below meth c A nL Q Ω cells slots pc L (va :: st) := fun H locs ls h1 h2 h3 h4 => lv_pop C0.1 C0.2.1 d h (kk H locs ls h1 h2 h3 h4)
theorem j_dup2 (C0 : CX p l s m args meth c own cc nL ret D Y A E) {va vb : Value} (d : decode cc pc = .ok (.dup2, 1)) (h : va.category = 1) (h0 : vb.category = 1) (kk : J p l e R s m args below meth c A nL Q Ω cells slots (pc + 1) L (va :: vb :: va :: vb :: st)) : J p l e R s m args below meth c A nL Q Ω cells slots pc L (va :: vb :: st) := fun H locs ls h1 h2 h3 h4 => lv_dup2_11 C0.1 C0.2.1 d h h0 (kk H locs ls h1 h2 h3 h4)
theorem j_if_eq (C0 : CX p l s m args meth c own cc nL ret D Y A E) {x : Int32} {off : Int} (tgt : Nat) (d : decode cc pc = .ok (.ifCond .eq off, 3)) (ht : (pc : Int) + off = (tgt : Int)) (kt : x = 0 → J p l e R s m args below meth c A nL Q Ω cells slots tgt L st) (kf : ¬ x = 0 → J p l e R s m args below meth c A nL Q Ω cells slots (pc + 3) L st) : J p l e R s m args below meth c A nL Q Ω cells slots pc L (.int x :: st) := fun H locs ls h1 h2 h3 h4 => lv_if_eq C0.1 C0.2.1 d ht (fun z => kt z H locs ls h1 h2 h3 h4) (fun z => kf z H locs ls h1 h2 h3 h4)
theorem j_icmp_eq (C0 : CX p l s m args meth c own cc nL ret D Y A E) {x y : Int32} {off : Int} (tgt : Nat) (d : decode cc pc = .ok (.if_icmp .eq off, 3)) (ht : (pc : Int) + off = (tgt : Int)) (kt : x = y → J p l e R s m args below meth c A nL Q Ω cells slots tgt L st) (kf : ¬ x = y → J p l e R s m args below meth c A nL Q Ω cells slots (pc + 3) L st) : J p l e R s m args below meth c A nL Q Ω cells slots pc L (.int y :: .int x :: st) := fun H locs ls h1 h2 h3 h4 => lv_icmp_eq C0.1 C0.2.1 d ht (fun z => kt z H locs ls h1 h2 h3 h4) (fun z => kf z H locs ls h1 h2 h3 h4)
theorem j_if_lt (C0 : CX p l s m args meth c own cc nL ret D Y A E) {x : Int32} {off : Int} (tgt : Nat) (d : decode cc pc = .ok (.ifCond .lt off, 3)) (ht : (pc : Int) + off = (tgt : Int)) (kt : x < 0 → J p l e R s m args below meth c A nL Q Ω cells slots tgt L st) (kf : ¬ x < 0 → J p l e R s m args below meth c A nL Q Ω cells slots (pc + 3) L st) : J p l e R s m args below meth c A nL Q Ω cells slots pc L (.int x :: st) := fun H locs ls h1 h2 h3 h4 => lv_if_lt C0.1 C0.2.1 d ht (fun z => kt z H locs ls h1 h2 h3 h4) (fun z => kf z H locs ls h1 h2 h3 h4)
theorem j_icmp_lt (C0 : CX p l s m args meth c own cc nL ret D Y A E) {x y : Int32} {off : Int} (tgt : Nat) (d : decode cc pc = .ok (.if_icmp .lt off, 3)) (ht : (pc : Int) + off = (tgt : Int)) (kt : x < y → J p l e R s m args below meth c A nL Q Ω cells slots tgt L st) (kf : ¬ x < y → J p l e R s m args below meth c A nL Q Ω cells slots (pc + 3) L st) : J p l e R s m args below meth c A nL Q Ω cells slots pc L (.int y :: .int x :: st) := fun H locs ls h1 h2 h3 h4 => lv_icmp_lt C0.1 C0.2.1 d ht (fun z => kt z H locs ls h1 h2 h3 h4) (fun z => kf z H locs ls h1 h2 h3 h4)
theorem j_if_ge (C0 : CX p l s m args meth c own cc nL ret D Y A E) {x : Int32} {off : Int} (tgt : Nat) (d : decode cc pc = .ok (.ifCond .ge off, 3)) (ht : (pc : Int) + off = (tgt : Int)) (kt : 0 ≤ x → J p l e R s m args below meth c A nL Q Ω cells slots tgt L st) (kf : ¬ 0 ≤ x → J p l e R s m args below meth c A nL Q Ω cells slots (pc + 3) L st) : J p l e R s m args below meth c A nL Q Ω cells slots pc L (.int x :: st) := fun H locs ls h1 h2 h3 h4 => lv_if_ge C0.1 C0.2.1 d ht (fun z => kt z H locs ls h1 h2 h3 h4) (fun z => kf z H locs ls h1 h2 h3 h4)
theorem j_icmp_ge (C0 : CX p l s m args meth c own cc nL ret D Y A E) {x y : Int32} {off : Int} (tgt : Nat) (d : decode cc pc = .ok (.if_icmp .ge off, 3)) (ht : (pc : Int) + off = (tgt : Int)) (kt : y ≤ x → J p l e R s m args below meth c A nL Q Ω cells slots tgt L st) (kf : ¬ y ≤ x → J p l e R s m args below meth c A nL Q Ω cells slots (pc + 3) L st) : J p l e R s m args below meth c A nL Q Ω cells slots pc L (.int y :: .int x :: st) := fun H locs ls h1 h2 h3 h4 => lv_icmp_ge C0.1 C0.2.1 d ht (fun z => kt z H locs ls h1 h2 h3 h4) (fun z => kf z H locs ls h1 h2 h3 h4)
theorem j_if_gt (C0 : CX p l s m args meth c own cc nL ret D Y A E) {x : Int32} {off : Int} (tgt : Nat) (d : decode cc pc = .ok (.ifCond .gt off, 3)) (ht : (pc : Int) + off = (tgt : Int)) (kt : 0 < x → J p l e R s m args below meth c A nL Q Ω cells slots tgt L st) (kf : ¬ 0 < x → J p l e R s m args below meth c A nL Q Ω cells slots (pc + 3) L st) : J p l e R s m args below meth c A nL Q Ω cells slots pc L (.int x :: st) := fun H locs ls h1 h2 h3 h4 => lv_if_gt C0.1 C0.2.1 d ht (fun z => kt z H locs ls h1 h2 h3 h4) (fun z => kf z H locs ls h1 h2 h3 h4)
theorem j_icmp_gt (C0 : CX p l s m args meth c own cc nL ret D Y A E) {x y : Int32} {off : Int} (tgt : Nat) (d : decode cc pc = .ok (.if_icmp .gt off, 3)) (ht : (pc : Int) + off = (tgt : Int)) (kt : y < x → J p l e R s m args below meth c A nL Q Ω cells slots tgt L st) (kf : ¬ y < x → J p l e R s m args below meth c A nL Q Ω cells slots (pc + 3) L st) : J p l e R s m args below meth c A nL Q Ω cells slots pc L (.int y :: .int x :: st) := fun H locs ls h1 h2 h3 h4 => lv_icmp_gt C0.1 C0.2.1 d ht (fun z => kt z H locs ls h1 h2 h3 h4) (fun z => kf z H locs ls h1 h2 h3 h4)
theorem j_if_le (C0 : CX p l s m args meth c own cc nL ret D Y A E) {x : Int32} {off : Int} (tgt : Nat) (d : decode cc pc = .ok (.ifCond .le off, 3)) (ht : (pc : Int) + off = (tgt : Int)) (kt : x ≤ 0 → J p l e R s m args below meth c A nL Q Ω cells slots tgt L st) (kf : ¬ x ≤ 0 → J p l e R s m args below meth c A nL Q Ω cells slots (pc + 3) L st) : J p l e R s m args below meth c A nL Q Ω cells slots pc L (.int x :: st) := fun H locs ls h1 h2 h3 h4 => lv_if_le C0.1 C0.2.1 d ht (fun z => kt z H locs ls h1 h2 h3 h4) (fun z => kf z H locs ls h1 h2 h3 h4)
theorem j_icmp_le (C0 : CX p l s m args meth c own cc nL ret D Y A E) {x y : Int32} {off : Int} (tgt : Nat) (d : decode cc pc = .ok (.if_icmp .le off, 3)) (ht : (pc : Int) + off = (tgt : Int)) (kt : x ≤ y → J p l e R s m args below meth c A nL Q Ω cells slots tgt L st) (kf : ¬ x ≤ y → J p l e R s m args below meth c A nL Q Ω cells slots (pc + 3) L st) : J p l e R s m args below meth c A nL Q Ω cells slots pc L (.int y :: .int x :: st) := fun H locs ls h1 h2 h3 h4 => lv_icmp_le C0.1 C0.2.1 d ht (fun z => kt z H locs ls h1 h2 h3 h4) (fun z => kf z H locs ls h1 h2 h3 h4)
theorem j_if_ne (C0 : CX p l s m args meth c own cc nL ret D Y A E) {x : Int32} {off : Int} (tgt : Nat) (d : decode cc pc = .ok (.ifCond .ne off, 3)) (ht : (pc : Int) + off = (tgt : Int)) (kt : ¬ x = 0 → J p l e R s m args below meth c A nL Q Ω cells slots tgt L st) (kf : x = 0 → J p l e R s m args below meth c A nL Q Ω cells slots (pc + 3) L st) : J p l e R s m args below meth c A nL Q Ω cells slots pc L (.int x :: st) := fun H locs ls h1 h2 h3 h4 => lv_if_ne C0.1 C0.2.1 d ht (fun z => kt z H locs ls h1 h2 h3 h4) (fun z => kf z H locs ls h1 h2 h3 h4)
theorem j_icmp_ne (C0 : CX p l s m args meth c own cc nL ret D Y A E) {x y : Int32} {off : Int} (tgt : Nat) (d : decode cc pc = .ok (.if_icmp .ne off, 3)) (ht : (pc : Int) + off = (tgt : Int)) (kt : ¬ x = y → J p l e R s m args below meth c A nL Q Ω cells slots tgt L st) (kf : x = y → J p l e R s m args below meth c A nL Q Ω cells slots (pc + 3) L st) : J p l e R s m args below meth c A nL Q Ω cells slots pc L (.int y :: .int x :: st) := fun H locs ls h1 h2 h3 h4 => lv_icmp_ne C0.1 C0.2.1 d ht (fun z => kt z H locs ls h1 h2 h3 h4) (fun z => kf z H locs ls h1 h2 h3 h4)
theorem j_goto (C0 : CX p l s m args meth c own cc nL ret D Y A E) {off : Int} (tgt : Nat) (d : decode cc pc = .ok (.goto off, 3)) (ht : (pc : Int) + off = (tgt : Int)) (kk : J p l e R s m args below meth c A nL Q Ω cells slots tgt L st) : J p l e R s m args below meth c A nL Q Ω cells slots pc L st := fun H locs ls h1 h2 h3 h4 => lv_goto C0.1 C0.2.1 d ht (kk H locs ls h1 h2 h3 h4)
theorem j_widen {k n : Nat} (h1 : cells ≤ k) (h2 : slots ≤ n) (kk : J p l e R s m args below meth c A nL Q Ω k n pc L st) : J p l e R s m args below meth c A nL Q Ω cells slots pc L st := fun H locs ls a1 a2 a3 a4 => W.widen h1 h2 (kk H locs ls a1 a2 a3 a4)
/-- the world, said otherwise -/
theorem j_world (h : ∀ H, Ω H → Ω' H) (kk : J p l e R s m args below meth c A nL Q Ω' cells slots pc L st) : J p l e R s m args below meth c A nL Q Ω cells slots pc L st := fun H locs ls a1 a2 a3 a4 => kk H locs ls (h H a1) a2 a3 a4
/-- fewer locals -/
theorem j_locals (h : ∀ q ∈ L', q ∈ L) (hk : lok L') (kk : J p l e R s m args below meth c A nL Q Ω cells slots pc L' st) : J p l e R s m args below meth c A nL Q Ω cells slots pc L st := fun H locs ls a1 a2 a3 a4 => kk H locs ls a1 a2 ⟨a3.1, a3.2.1, fun q hq => a3.2.2 q (h q hq)⟩ hk
/-- what a method owes at its end: the answer, the world, nothing outside A -/
def KQ (A : Nat → Prop) (Ω' : Heap → Prop) (rv : Option Value) : Array Value → State → Outcome → State → Prop := fun _ st oc t => oc = .returned rv ∧ Ω' t.heap ∧ va_F A st t
theorem j_iret (C0 : CX p l s m args meth c own cc nL ret D Y A E) (hr : ret = some .int) {v : Int32} (d : decode cc pc = .ok (.ireturn, 1)) (hΩ : ∀ H, Ω H → Ω' H) : J p l e R s m args below meth c A nL (MQ below (KQ A Ω' (some (.int v))) args s cells slots A) Ω cells slots pc L [.int v] := fun H locs ls h1 h2 h3 h4 => W.iret C0.1 C0.2.1 (C0.2.2.2.2.2.1.trans hr) (fun t ht _ => ⟨rfl, by rw [ht]; exact hΩ H h1, h2.F ht⟩) h2.2.2 d C0.2.2.2.2.2.2.1
theorem j_zret (C0 : CX p l s m args meth c own cc nL ret D Y A E) (hr : ret = some .boolean) {v : Int32} (hv : narrow .boolean (.int v) = .int v) (d : decode cc pc = .ok (.ireturn, 1)) (hΩ : ∀ H, Ω H → Ω' H) : J p l e R s m args below meth c A nL (MQ below (KQ A Ω' (some (.int v))) args s cells slots A) Ω cells slots pc L [.int v] := fun H locs ls h1 h2 h3 h4 => W.zret C0.1 C0.2.1 (C0.2.2.2.2.2.1.trans hr) hv (fun t ht _ => ⟨rfl, by rw [ht]; exact hΩ H h1, h2.F ht⟩) h2.2.2 d C0.2.2.2.2.2.2.1
theorem j_vret (C0 : CX p l s m args meth c own cc nL ret D Y A E) (hr : ret = none) (d : decode cc pc = .ok (.return_, 1)) (hΩ : ∀ H, Ω H → Ω' H) : J p l e R s m args below meth c A nL (MQ below (KQ A Ω' none) args s cells slots A) Ω cells slots pc L [] := fun H locs ls h1 h2 h3 h4 => W.vret C0.1 C0.2.1 (C0.2.2.2.2.2.1.trans hr) (fun t ht _ => ⟨rfl, by rw [ht]; exact hΩ H h1, h2.F ht⟩) h2.2.2 d C0.2.2.2.2.2.2.1
theorem j_aret (C0 : CX p l s m args meth c own cc nL ret D Y A E) {rt : FieldType} (hr : ret = some rt) (hrt : (∃ n, rt = .object n) ∨ ∃ t, rt = .array t) {v : Nat} (d : decode cc pc = .ok (.areturn, 1)) (hΩ : ∀ H, Ω H → Ω' H) : J p l e R s m args below meth c A nL (MQ below (KQ A Ω' (some (.ref v))) args s cells slots A) Ω cells slots pc L [.ref v] := fun H locs ls h1 h2 h3 h4 => W.aret C0.1 C0.2.1 (C0.2.2.2.2.2.1.trans hr) hrt (Or.inr ⟨v, rfl⟩) (fun t ht _ => ⟨rfl, by rw [ht]; exact hΩ H h1, h2.F ht⟩) h2.2.2 d C0.2.2.2.2.2.2.1
theorem j_post {Q2 : State → Prop} (h : ∀ t, Q2 t → Q t) (kk : J p l e R s m args below meth c A nL Q2 Ω cells slots pc L st) : J p l e R s m args below meth c A nL Q Ω cells slots pc L st := fun H locs ls a1 a2 a3 a4 T hT X => by
  obtain ⟨t, b1, b2⟩ := kk H locs ls a1 a2 a3 a4 T hT X
  exact ⟨t, b1, h t b2⟩
end JR
/-- a contract: in this world, with these arguments, the method returns rv and leaves that world -/
def KM (l : Launch) (y : MethodName) (bytes : ByteArray) (mL : Nat) (rt : Option FieldType) (D : va_G) (Y : Nat → ClassId) (A : Nat → Prop) (E : State → Prop) (fr lo mc ms : Nat) (av : List Value) (Ω : Heap → Prop) (rv : Option Value) (Ω' : Heap → Prop) : Prop :=
  Met l y (Cond.code y bytes mL rt :: TB) { frames := fr, cells := mc, slots := ms, locals := lo } (fun v U => v = av.toArray ∧ WS D Y A E U ∧ Ω U.heap) (KQ A Ω' rv) mc ms A
theorem KM_of {l : Launch} {y : MethodName} {bytes : ByteArray} {mL : Nat} {rt : Option FieldType} {D : va_G} {Y : Nat → ClassId} {A : Nat → Prop} {E : State → Prop} {fr lo mc ms : Nat} {av : List Value} {Ω : Heap → Prop} {rv : Option Value} {Ω' : Heap → Prop} (own : String) (L : List (Nat × Value)) (ho : y.cls = own) (hy : plainName y.cls = true) (hl : l.stackTraces = false) (hav : (lg_sl av).length ≤ mL) (hL : lv_args 0 av = L) (hok : lok L)
    (body : ∀ (p : Program) (e : Env) (s : State) (m : MethodId) (args : Array Value) (below : List Frame) (meth : Method) (c : Code), CX p l s m args meth c own bytes mL rt D Y A E →
      J p l e { frames := fr, cells := mc, slots := ms, locals := lo } s m args below meth c A mL (MQ below (KQ A Ω' rv) args s mc ms A) Ω 0 0 0 L []) : KM l y bytes mL rt D Y A E fr lo mc ms av Ω rv Ω' := by
  refine Met.ofW (cc := bytes) (maxL := mL) (ret := rt) hy rfl ?_
  intro p e s m args below meth c s₁ B hml hv
  obtain ⟨rfl, hW, hΩ⟩ := hv
  have hts := atoms_spec (ws := Cond.code y bytes mL rt :: TB) B.pre
  have C0 : CX p l s m av.toArray meth c own bytes mL rt D Y A E := ⟨B.exec, B.bytes, hml, by rw [← ho]; exact findClass_of_methodNamed B.named, fun w hw => hts w (List.mem_cons_of_mem _ hw), B.returns, B.notSynchronized, hW, hl⟩
  rw [lg_entry_eq]
  have h3 := lv_entry av (n := mL) hav
  rw [hL] at h3
  exact body p e s m _ below meth c C0 s.heap [] _ hΩ va_S.rf h3 hok
theorem KM.blind {l : Launch} {D : va_G} {Y : Nat → ClassId} {A : Nat → Prop} {E : State → Prop} {av : List Value} {Ω : Heap → Prop} : FrameBlind (fun v U => v = av.toArray ∧ WS D Y A E U ∧ Ω U.heap) := fun a U g mk q => ⟨q.1, q.2.1.moved (U := U.calling g mk a) (State.WarmedH.refl U) (Nat.le_refl _) (fun _ _ _ => rfl), q.2.2⟩
section JC
variable {p : Program} {l : Launch} {e : Env} {R : Room} {s : State} {m : MethodId} {args : Array Value} {below : List Frame} {meth : Method} {c : Code} {Q : State → Prop} {Ω Ω' : Heap → Prop} {cells slots pc nL : Nat} {L L' : List (Nat × Value)} {st rest stk : List Value} {own C : String} {cc bytes : ByteArray} {ret rt : Option FieldType} {D : va_G} {Y : Nat → ClassId} {A : Nat → Prop} {E : State → Prop} {y : MethodName} {mL fr lo mc ms n idx : Nat} {rv : Option Value} {b : Nat}
theorem hb_call {H : Heap} {locs : List Loc} {ls : Array Slot} {a : Array Value} {st0 : List Value} (hr : va_Run p l e R s m args below meth c H locs cells slots mc ms (F0 m pc ls st0) rest (KQ A Ω' rv a) A) (hS : va_S A s.heap H locs)
    (kk : ∀ (H1 : Heap) (locs1 : List Loc), Ω' H1 → va_S A s.heap H1 locs1 → W p l e R s m args below meth c H1 locs1 (cells + mc) (slots + ms) Q (F0 m (pc + 3) ls (rv.toList ++ rest))) : W p l e R s m args below meth c H locs cells slots Q (F0 m pc ls st0) := by
  intro T hT X
  obtain ⟨v, st₀, t, T', Ls, h0, X', hL, e1, e2, ⟨hv, hΩ, hz, hk⟩, sT⟩ := hr T hT X
  cases hv
  rw [h0] at hz hk
  obtain ⟨t2, a1, b1⟩ := kk T'.heap (locs ++ Ls) (by rw [e1]; exact hΩ)
    ⟨Nat.le_trans hS.1 (by rw [e1]; exact hz), fun q h1 h2 => by rw [e1, hk q (Nat.lt_of_lt_of_le h1 hS.1) h2]; exact hS.2.1 q h1 h2, fun q hq => by
      rcases List.mem_append.mp hq with h | h
      · exact hS.2.2 q h
      · exact hL q h⟩ T' rfl X'
  exact ⟨t2, sT t2 a1, b1⟩
theorem CX.pre (C0 : CX p l s m args meth c own cc nL ret D Y A E) {H : Heap} {locs : List Loc} (hS : va_S A s.heap H locs) {U : State} (hU : U.heap = H) (hW : s.WarmedH U.vm) : WS D Y A E U :=
  C0.2.2.2.2.2.2.2.1.moved hW (by rw [hU]; exact hS.1) (fun q h1 h2 => by rw [hU]; exact hS.2.1 q h1 h2)
/-- the words of a callee: virtual, static -/
def MV (C : String) (y : MethodName) (bytes : ByteArray) (mL : Nat) (rt : Option FieldType) (n : Nat) : Prop := Cond.instanceMethod y ∈ TB ∧ Cond.selects C y y ∈ TB ∧ Cond.initialized C ∈ TB ∧ Cond.code y bytes mL rt ∈ TB ∧ (y.cls = C ∧ y.cls ≠ "java/lang/invoke/MethodHandle" ∧ y.cls ≠ "java/lang/invoke/VarHandle" ∧ (parseMethodDescriptor y.desc).map (fun d => d.parameters.length) = some n)
def MS (y : MethodName) (bytes : ByteArray) (mL : Nat) (rt : Option FieldType) (n : Nat) : Prop := Cond.static y ∈ TB ∧ Cond.initialized y.cls ∈ TB ∧ Cond.code y bytes mL rt ∈ TB ∧ (y.cls ≠ "java/lang/invoke/MethodHandle" ∧ y.cls ≠ "java/lang/invoke/VarHandle" ∧ (parseMethodDescriptor y.desc).map (fun d => d.parameters.length) = some n)
theorem MV.good (h : MV C y bytes mL rt n) (hl : Cond.methodLink own idx y ∈ TB) : GoodIn TB (wsV own idx C y (Cond.code y bytes mL rt :: TB)) := TB_sub (by
  obtain ⟨h1, h2, h3, h4, -⟩ := h
  intro w hw
  unfold wsV at hw
  rcases List.mem_append.mp hw with hw | hw
  · simp only [List.mem_cons, List.mem_nil_iff, or_false] at hw
    rcases hw with rfl | rfl | rfl | rfl <;> assumption
  · rcases List.mem_cons.mp hw with rfl | hw
    · exact h4
    · exact hw)
theorem MS.good (h : MS y bytes mL rt n) (hl : Cond.methodLink own idx y ∈ TB) : GoodIn TB (va_wsS own idx y (Cond.code y bytes mL rt :: TB)) := TB_sub (by
  obtain ⟨h1, h2, h3, -⟩ := h
  intro w hw
  unfold va_wsS at hw
  rcases List.mem_append.mp hw with hw | hw
  · simp only [List.mem_cons, List.mem_nil_iff, or_false] at hw
    rcases hw with rfl | rfl | rfl <;> assumption
  · rcases List.mem_cons.mp hw with rfl | hw
    · exact h3
    · exact hw)
/-- the receiver is an object of class C -/
def RV (s : State) (Ω : Heap → Prop) (C : String) (b : Nat) : Prop := ∀ H, Ω H → ∃ cell : Cell, H[b]? = some cell ∧ cell.vm.isStatics = false ∧ s.vm.findClass C = some cell.cls
theorem j_callVv (C0 : CX p l s m args meth c own cc nL ret D Y A E) {v : Value} {As : List Value} (hM : KM l y bytes mL rt D Y A E fr lo mc ms (.ref b :: As) Ω (some v) Ω') (hw : MV C y bytes mL rt n) (hl : Cond.methodLink own idx y ∈ TB) (hrec : RV s Ω C b) (hn : As.length = n) (hst : stk = As.reverse ++ .ref b :: rest) (hR : fr + 1 ≤ R.frames ∧ 8 + (mL + 11) + lo ≤ R.locals) (hc : (rest.map fun v => v.category).sum ≤ 8) (hf : cells + mc ≤ R.cells ∧ slots + ms ≤ R.slots) (d : decode cc pc = .ok (.invokevirtual idx, 3)) (kk : J p l e R s m args below meth c A nL Q Ω' (cells + mc) (slots + ms) (pc + 3) L (v :: rest)) : J p l e R s m args below meth c A nL Q Ω cells slots pc L stk := by
  intro H locs ls h1 h2 h3 h4
  subst hst
  exact hb_call (a := (.ref b :: As).toArray) (va_runV (As := As) (rest := rest) ⟨C0.1, C0.2.1, C0.2.2.1, C0.2.2.2.1, C0.2.2.2.2.1⟩ hM (cwV n C0.2.2.2.2.1 (hw.good hl) rfl rfl rfl hw.2.2.2.2 hR) ⟨KM.blind (l := l), hrec H h1, fun U hU hW => ⟨rfl, C0.pre h2 hU hW, by rw [hU]; exact h1⟩⟩ rfl hn h3.1 rfl (lv_room hc) d hf) h2 (fun H1 locs1 k1 k2 => kk H1 locs1 ls k1 k2 h3 h4)
theorem j_callVn (C0 : CX p l s m args meth c own cc nL ret D Y A E) {As : List Value} (hM : KM l y bytes mL rt D Y A E fr lo mc ms (.ref b :: As) Ω (none) Ω') (hw : MV C y bytes mL rt n) (hl : Cond.methodLink own idx y ∈ TB) (hrec : RV s Ω C b) (hn : As.length = n) (hst : stk = As.reverse ++ .ref b :: rest) (hR : fr + 1 ≤ R.frames ∧ 8 + (mL + 11) + lo ≤ R.locals) (hc : (rest.map fun v => v.category).sum ≤ 8) (hf : cells + mc ≤ R.cells ∧ slots + ms ≤ R.slots) (d : decode cc pc = .ok (.invokevirtual idx, 3)) (kk : J p l e R s m args below meth c A nL Q Ω' (cells + mc) (slots + ms) (pc + 3) L rest) : J p l e R s m args below meth c A nL Q Ω cells slots pc L stk := by
  intro H locs ls h1 h2 h3 h4
  subst hst
  exact hb_call (a := (.ref b :: As).toArray) (va_runV (As := As) (rest := rest) ⟨C0.1, C0.2.1, C0.2.2.1, C0.2.2.2.1, C0.2.2.2.2.1⟩ hM (cwV n C0.2.2.2.2.1 (hw.good hl) rfl rfl rfl hw.2.2.2.2 hR) ⟨KM.blind (l := l), hrec H h1, fun U hU hW => ⟨rfl, C0.pre h2 hU hW, by rw [hU]; exact h1⟩⟩ rfl hn h3.1 rfl (lv_room hc) d hf) h2 (fun H1 locs1 k1 k2 => kk H1 locs1 ls k1 k2 h3 h4)
theorem j_callSv (C0 : CX p l s m args meth c own cc nL ret D Y A E) {v : Value} {As : List Value} (hM : KM l y bytes mL rt D Y A E fr lo mc ms As Ω (some v) Ω') (hw : MS y bytes mL rt n) (hl : Cond.methodLink own idx y ∈ TB) (hn : As.length = n) (hst : stk = As.reverse ++ rest) (hR : fr + 1 ≤ R.frames ∧ 8 + (mL + 11) + lo ≤ R.locals) (hc : (rest.map fun v => v.category).sum ≤ 8) (hf : cells + mc ≤ R.cells ∧ slots + ms ≤ R.slots) (d : decode cc pc = .ok (.invokestatic idx, 3)) (kk : J p l e R s m args below meth c A nL Q Ω' (cells + mc) (slots + ms) (pc + 3) L (v :: rest)) : J p l e R s m args below meth c A nL Q Ω cells slots pc L stk := by
  intro H locs ls h1 h2 h3 h4
  subst hst
  exact hb_call (a := As.toArray) (va_runS (As := As) (rest := rest) ⟨C0.1, C0.2.1, C0.2.2.1, C0.2.2.2.1, C0.2.2.2.2.1⟩ hM (va_cwS n C0.2.2.2.2.1 (hw.good hl) rfl rfl rfl hw.2.2.2 hR) ⟨KM.blind (l := l), fun U hU hW => ⟨rfl, C0.pre h2 hU hW, by rw [hU]; exact h1⟩⟩ rfl hn h3.1 rfl (lv_room hc) d hf) h2 (fun H1 locs1 k1 k2 => kk H1 locs1 ls k1 k2 h3 h4)
theorem j_callSn (C0 : CX p l s m args meth c own cc nL ret D Y A E) {As : List Value} (hM : KM l y bytes mL rt D Y A E fr lo mc ms As Ω (none) Ω') (hw : MS y bytes mL rt n) (hl : Cond.methodLink own idx y ∈ TB) (hn : As.length = n) (hst : stk = As.reverse ++ rest) (hR : fr + 1 ≤ R.frames ∧ 8 + (mL + 11) + lo ≤ R.locals) (hc : (rest.map fun v => v.category).sum ≤ 8) (hf : cells + mc ≤ R.cells ∧ slots + ms ≤ R.slots) (d : decode cc pc = .ok (.invokestatic idx, 3)) (kk : J p l e R s m args below meth c A nL Q Ω' (cells + mc) (slots + ms) (pc + 3) L rest) : J p l e R s m args below meth c A nL Q Ω cells slots pc L stk := by
  intro H locs ls h1 h2 h3 h4
  subst hst
  exact hb_call (a := As.toArray) (va_runS (As := As) (rest := rest) ⟨C0.1, C0.2.1, C0.2.2.1, C0.2.2.2.1, C0.2.2.2.2.1⟩ hM (va_cwS n C0.2.2.2.2.1 (hw.good hl) rfl rfl rfl hw.2.2.2 hR) ⟨KM.blind (l := l), fun U hU hW => ⟨rfl, C0.pre h2 hU hW, by rw [hU]; exact h1⟩⟩ rfl hn h3.1 rfl (lv_room hc) d hf) h2 (fun H1 locs1 k1 k2 => kk H1 locs1 ls k1 k2 h3 h4)
end JC
section JH
variable {p : Program} {l : Launch} {e : Env} {R : Room} {s : State} {m : MethodId} {args : Array Value} {below : List Frame} {meth : Method} {c : Code} {Q : State → Prop} {cells slots pc nL : Nat} {L L' : List (Nat × Value)} {st rest : List Value} {own C : String} {cc : ByteArray} {ret : Option FieldType} {D : va_G} {Y : Nat → ClassId} {A : Nat → Prop} {E : State → Prop} {ws : va_W} {T : u_T} {N ci a index : Nat}
theorem j_recv (C0 : CX p l s m args meth c own cc nL ret D Y A E) (hc : vwCl[ci]? = some (C, T, N)) (q0 : Nat) {fs : List Value} (he : ws[q0]? = some (a, .inr (ci, fs))) : RV s (Ow D A ws) C a := fun _ h => va_recv C0.2.2.2.2.2.2.2.1.2.1 h.1 (q0 := q0) hc he
theorem j_get (C0 : CX p l s m args meth c own cc nL ret D Y A E) (hin : ∀ w ∈ u_ws C T N, w ∈ TB) (hc : vwCl[ci]? = some (C, T, N)) (q0 : Nat) {fs : List Value} (he : ws[q0]? = some (a, .inr (ci, fs))) (k : Nat) (hk : k < N) (hl : Cond.fieldLink own index (T k).1 (T k).2.1 (T k).2.2.1 ∈ TB) {v : Value} (hv : fs[k]? = some v) (d : decode cc pc = .ok (.getfield index, 3)) (kk : J p l e R s m args below meth c A nL Q (Ow D A ws) cells slots (pc + 3) L (v :: st)) : J p l e R s m args below meth c A nL Q (Ow D A ws) cells slots pc L (.ref a :: st) :=
  fun H locs ls h1 h2 h3 h4 => va_get C0.1 C0.2.1 C0.2.2.2.2.1 hin C0.2.2.2.1 C0.2.2.2.2.2.2.2.1.2.1 h1.1 q0 he hc k hk (C0.2.2.2.2.1 _ hl) (fun _ h9 => h9) hv d (kk H locs ls h1 h2 h3 h4)
theorem j_put (C0 : CX p l s m args meth c own cc nL ret D Y A E) (hin : ∀ w ∈ u_ws C T N, w ∈ TB) (ty : Nat → FieldType) (hty : ∀ k, k < N → parseFieldDescriptor (T k).2.2.1 = some (ty k)) (hnm : ∀ a, a < N → ∀ b, b < N → a ≠ b → (T a).2.1 ≠ (T b).2.1) (hc : vwCl[ci]? = some (C, T, N)) (q0 : Nat) {fs : List Value} (he : ws[q0]? = some (a, .inr (ci, fs))) (k : Nat) (hk : k < N) (hl : Cond.fieldLink own index (T k).1 (T k).2.1 (T k).2.2.1 ∈ TB) (hfin : (T k).2.2.2 = false) {t : FieldType} {v : Value} (hd : parseFieldDescriptor (T k).2.2.1 = some t) (hn : narrow t v = v) (hfit : fits t v = true) (hlen : k < fs.length) (d : decode cc pc = .ok (.putfield index, 3)) (kk : J p l e R s m args below meth c A nL Q (Ow D A (ws.set q0 (a, .inr (ci, fs.set k v)))) cells slots (pc + 3) L st) : J p l e R s m args below meth c A nL Q (Ow D A ws) cells slots pc L (v :: .ref a :: st) :=
  fun H locs ls h1 h2 h3 h4 => va_put C0.1 C0.2.1 C0.2.2.2.2.1 hin ty hty hnm C0.2.2.2.1 C0.2.2.2.2.2.2.2.1.2.1 h1.1 h1.2 h2 q0 he hc k hk (C0.2.2.2.2.1 _ hl) (fun _ h9 => h9) hfin hd hn hfit hlen d (fun H1 locs1 k1 k2 k3 => kk H1 locs1 ls ⟨k1, k2⟩ k3 h3 h4)
theorem j_iald (C0 : CX p l s m args meth c own cc nL ret D Y A E) (q0 : Nat) {n : Nat} {f : Nat → Int32} (he : ws[q0]? = some (a, .inl (Y 0, n, .inl f))) {i : Int32} (hi : vp_in i n) (d : decode cc pc = .ok (.iaload, 1)) (kk : J p l e R s m args below meth c A nL Q (Ow D A ws) cells slots (pc + 1) L (.int (f i.toNatClampNeg) :: st)) : J p l e R s m args below meth c A nL Q (Ow D A ws) cells slots pc L (.int i :: .ref a :: st) :=
  fun H locs ls h1 h2 h3 h4 => va_iald C0.1 C0.2.1 C0.2.2.2.2.2.2.2.1.2.1 h1.1 q0 0 he rfl hi d (kk H locs ls h1 h2 h3 h4)
theorem j_iast (C0 : CX p l s m args meth c own cc nL ret D Y A E) (q0 : Nat) {n : Nat} {f : Nat → Int32} (he : ws[q0]? = some (a, .inl (Y 0, n, .inl f))) {i x : Int32} (hi : vp_in i n) (d : decode cc pc = .ok (.iastore, 1)) (kk : J p l e R s m args below meth c A nL Q (Ow D A (ws.set q0 (a, .inl (Y 0, n, .inl (upd f i.toNatClampNeg x))))) cells slots (pc + 1) L st) : J p l e R s m args below meth c A nL Q (Ow D A ws) cells slots pc L (.int x :: .int i :: .ref a :: st) :=
  fun H locs ls h1 h2 h3 h4 => va_iast C0.1 C0.2.1 C0.2.2.2.2.2.2.2.1.2.1 h1.1 h1.2 h2 q0 0 he rfl hi d (fun H1 locs1 k1 k2 k3 => kk H1 locs1 ls ⟨k1, k2⟩ k3 h3 h4)
end JH
/-- a loop that counts: f at each turn -/
def nf {α : Type} (f : Nat → α → α) (a : α) : Nat → α
  | 0 => a
  | n + 1 => f n (nf f a n)
theorem hb_loop {α : Type} (P : Nat → α → Prop) (f : Nat → α → α) (a : α) (N : Nat) (hN : P N (nf f a N)) (hs : ∀ j, j < N → P (j + 1) (f j (nf f a j)) → P j (nf f a j)) : P 0 a := by
  have key : ∀ k, k ≤ N → P (N - k) (nf f a (N - k)) := by
    intro k
    induction k with
    | zero => intro _; exact hN
    | succ k ih =>
      intro hk
      have h := ih (by omega)
      have e : N - k = (N - (k + 1)) + 1 := by omega
      rw [e] at h
      exact hs _ (by omega) h
  have h := key N (Nat.le_refl N)
  rw [Nat.sub_self] at h
  exact h
