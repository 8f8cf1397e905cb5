def R_law : String := "HarborTidesLaw"
def lw_P (b : Addr) (xs : List Int32) (args : Array Value) (s : State) : Prop := args = #[.ref b] ∧ s.IntsAt b xs ∧ xs.length ≤ 2560 ∧ (Jvm.Cond.and given_1 narrow_1).before args s = true
def lw_Q (_ : Array Value) (s : State) (o : Outcome) (t : State) : Prop := o = .returned (some (.int 1)) ∧ Framed s o t [] 601024 7293034
def lw_Z (below : List Frame) (a : Array Value) (s : State) : State → Prop := fun t => ∃ o, t.status = .running ∧ Ended t below o ∧ lw_Q a s o t
/-- the law's own end, with 1 on the stack, nothing written that was there before, its room as the claim has it -/
theorem lw_ret {p : Program} {l : Launch} {e : Env} {s : State} {m : MethodId} {below : List Frame} {meth : Method} {c : Code} {b : Nat} (hx : p.tables.exec = Jvm.exec) (hb : c.code = code) (hr : meth.sig.returnType = ret) (hlocks : meth.locks = false) {pc : Nat} {H : Heap} {ls : Array Slot} (hdg : decode code pc = .ok (.ireturn, 1)) : W p l e room_1 s m #[Value.ref b] below meth c H [] 601024 7293034 (lw_Z below #[Value.ref b] s) (F0 m pc ls [.int 1]) := by
  intro T hT X
  obtain ⟨fs, hret, hrun, hended, hW, hframe⟩ := X.leave (v := some (.int 1)) (hlocks := hlocks) (fun h => by rw [hr] at h; cases h)
  have hmeth' : T.vm.method? m = some meth := X.method'
  refine ⟨T.setFrames fs, ?_, .returned (some (.int 1)), hrun, hended, rfl, ⟨_, rfl⟩, hW, hframe⟩
  jvm_step X.here [X.here.top, hx, hb, hdg, hmeth', hr, ret, narrow_b1]
  (try refine ⟨rfl, ?_⟩); (try refine ⟨rfl, ?_⟩)
  first | (intro acts; rw [hret _ acts rfl rfl rfl]) | rw [hret _ _ rfl rfl rfl]
  exact Steps.refl _
/-- what holds at the law's entry: the machine, the code, the tables' words (any of lw_tbl by 'hts w (by decide +kernel)'), the script of L ints xs at the cell b, what the Statement gives of the start (any of its parts by flat_of_before) -/
def lw_At (p : Program) (s : State) (m : MethodId) (meth : Method) (c : Code) (b L : Nat) (xs : Nat → Int32) : Prop :=
  p.tables.exec = Jvm.exec ∧ c.code = code ∧ meth.sig.returnType = ret ∧ c.maxLocals = 7 ∧ s.vm.findClass R_law = some m.cls ∧ (∀ w ∈ lw_tbl, w.before #[Value.ref b] s = true) ∧ va_X b L xs s s.heap ∧ b < s.heap.size ∧ meth.locks = false ∧ (Jvm.Cond.and given_1 narrow_1).before #[Value.ref b] s = true
section
variable {p : Program} {l : Launch} {e : Env} {s : State} {m : MethodId} {below : List Frame} {meth : Method} {cd : Code} {Q9 : State → Prop} {Ω : Heap → Prop} {ret9 : Option FieldType} {D : va_G} {Y : Nat → ClassId} {E : State → Prop} {tE mi b Ls o cells slots k pc : Nat} {xs : Nat → Int32} {c6 c7 : Nat → Nat} {L : List (Nat × Value)} {st : List Value}
theorem j_lawret (C0 : CX p l s m #[Value.ref b] meth cd RL cL_law 7 ret9 D Y (fun q => s.heap.size ≤ q) E) (hr : meth.sig.returnType = ret) (hc : cells ≤ 601024) (hs : slots ≤ 7293034) (d : decode cL_law pc = .ok (.ireturn, 1)) : J p l e room_1 s m #[Value.ref b] below meth cd (fun q => s.heap.size ≤ q) 7 (lw_Z below #[Value.ref b] s) Ω cells slots pc L [.int 1] := fun H locs ls h1 h2 h3 h4 => va_forget (fun q hq => h2.2.2 q hq) (W.widen hc hs (lw_ret C0.1 C0.2.1 hr C0.2.2.2.2.2.2.1 d))
theorem lw_head (C0 : CX p l s m #[Value.ref b] meth cd RL cL_law 7 ret9 D Y (fun q => s.heap.size ≤ q) E) (hX : va_X b Ls xs s s.heap) (hbl : b < s.heap.size) (hLs : Ls ≤ 2560) (hk : k ≤ 513) (kt : Ls < 5 * k + 5 → J p l e room_1 s m #[Value.ref b] below meth cd (fun q => s.heap.size ≤ q) 7 Q9 Ω cells slots 1527 [(0, .ref b), (1, .ref (c6 0)), (2, .ref (c7 0)), (3, .ref o), (4, .int (nI (5 * k)))] []) (kf : 5 * k + 5 ≤ Ls → J p l e room_1 s m #[Value.ref b] below meth cd (fun q => s.heap.size ≤ q) 7 Q9 Ω cells slots 32 [(0, .ref b), (1, .ref (c6 0)), (2, .ref (c7 0)), (3, .ref o), (4, .int (nI (5 * k)))] []) : J p l e room_1 s m #[Value.ref b] below meth cd (fun q => s.heap.size ≤ q) 7 Q9 Ω cells slots 23 [(0, .ref b), (1, .ref (c6 0)), (2, .ref (c7 0)), (3, .ref o), (4, .int (nI (5 * k)))] [] := by
  have hbA : ¬ (fun q => s.heap.size ≤ q) b := Nat.not_le.mpr hbl
  have cmp : nI Ls - nI 5 < nI (5 * k) ↔ Ls < 5 * k + 5 := by
    rw [Int32.lt_iff_toInt_lt, pk_sub_toInt (by omega) (by omega), nI_toInt (by omega)]
    omega
  refine j_iload C0 dL_law_23 rfl ?_
  refine j_aload_n C0 dL_law_25 rfl ?_
  refine j_slen C0 hX hbl hbA dL_law_26 ?_
  refine j_iconst C0 dL_law_27 (v := nI 5) rfl ?_
  refine j_isub C0 dL_law_28 ?_
  exact j_icmp_gt C0 1527 dL_law_29 (by decide) (fun q => kt (cmp.mp q)) (fun q => kf (Nat.le_of_not_lt (fun z => q (cmp.mpr z))))
theorem lw_next (C0 : CX p l s m #[Value.ref b] meth cd RL cL_law 7 ret9 D Y (fun q => s.heap.size ≤ q) E) (kk : J p l e room_1 s m #[Value.ref b] below meth cd (fun q => s.heap.size ≤ q) 7 Q9 Ω cells slots 23 [(0, .ref b), (1, .ref (c6 0)), (2, .ref (c7 0)), (3, .ref o), (4, .int (nI (5 * (k + 1))))] []) : J p l e room_1 s m #[Value.ref b] below meth cd (fun q => s.heap.size ≤ q) 7 Q9 Ω cells slots 1521 [(0, .ref b), (1, .ref (c6 0)), (2, .ref (c7 0)), (3, .ref o), (4, .int (nI (5 * k)))] [] := by
  refine j_iinc C0 dL_law_1521 (x := nI (5 * k)) (v := nI (5 * (k + 1))) rfl ?_ (Nat.le_of_ble_eq_true rfl) rfl ?_
  · show nI (5 * k) + nI 5 = nI (5 * (k + 1))
    rw [nI_add]
    congr 1
  · exact j_goto C0 23 dL_law_1524 (by decide) kk
theorem lw_loop (hsl : l.stackTraces = false) (C0 : CX p l s m #[Value.ref b] meth cd RL cL_law 7 ret9 D Y (fun q => s.heap.size ≤ q) (EL (fun q => s.heap.size ≤ q) tE mi)) (hr : meth.sig.returnType = ret) (hX : va_X b Ls xs s s.heap) (hbl : b < s.heap.size) (hLs : Ls ≤ 2560) (ho : s.heap.size ≤ o) (hro : o ∉ rL c7) : ∀ n k, k + n = 513 → ∀ (F : Nat → Int32) (G : Nat → Nat → Int32) (N : Nat → Nat) (Q : Nat → Nat → Nat) (f : Nat → Int32) (g : Nat → Nat → Int32) (w : Int64) (cells slots : Nat), zI F G N Q f g → cells ≤ 40 + 8 * k + 2 * N 1 → slots ≤ 7200 + 300 * k + 165 * N 1 → J p l e room_1 s m #[Value.ref b] below meth cd (fun q => s.heap.size ≤ q) 7 (lw_Z below #[Value.ref b] s) (LW D Y s.heap.size tE o c6 c7 F G N Q f g w) cells slots 23 [(0, .ref b), (1, .ref (c6 0)), (2, .ref (c7 0)), (3, .ref o), (4, .int (nI (5 * k)))] [] := by
  have hbA : ¬ (fun q => s.heap.size ≤ q) b := Nat.not_le.mpr hbl
  intro n
  induction n with
  | zero =>
    intro k hk F G N Q f g w cells slots hz hc hs
    have n1 := zI_n1 hz
    refine lw_head C0 hX hbl hLs (by omega) (fun _ => ?_) (fun q => by omega)
    refine j_iconst C0 dL_law_1527 (v := 1) rfl ?_
    exact j_lawret C0 hr (by omega) (by omega) dL_law_1528
  | succ n ih =>
    intro k hk F G N Q f g w cells slots hz hc hs
    have n1 := zI_n1 hz
    refine lw_head C0 hX hbl hLs (by omega) (fun _ => ?_) (fun h5 => ?_)
    · refine j_iconst C0 dL_law_1527 (v := 1) rfl ?_
      exact j_lawret C0 hr (by omega) (by omega) dL_law_1528
    have kk : ∀ (F' : Nat → Int32) (G' : Nat → Nat → Int32) (N' : Nat → Nat) (Q' : Nat → Nat → Nat) (f' : Nat → Int32) (g' : Nat → Nat → Int32) (w' : Int64), zI F' G' N' Q' f' g' → N 1 ≤ N' 1 → J p l e room_1 s m #[Value.ref b] below meth cd (fun q => s.heap.size ≤ q) 7 (lw_Z below #[Value.ref b] s) (LW D Y s.heap.size tE o c6 c7 F' G' N' Q' f' g' w') (cells + (8 + 2 * (N' 1 - N 1))) (slots + (300 + 165 * (N' 1 - N 1))) 1521 [(0, .ref b), (1, .ref (c6 0)), (2, .ref (c7 0)), (3, .ref o), (4, .int (nI (5 * k)))] [] := fun F' G' N' Q' f' g' w' zi mono => lw_next C0 (ih (k + 1) (by omega) F' G' N' Q' f' g' w' _ _ zi (by omega) (by omega))
    have kd : J p l e room_1 s m #[Value.ref b] below meth cd (fun q => s.heap.size ≤ q) 7 (lw_Z below #[Value.ref b] s) (LW D Y s.heap.size tE o c6 c7 F G N Q f g w) cells slots 1521 [(0, .ref b), (1, .ref (c6 0)), (2, .ref (c7 0)), (3, .ref o), (4, .int (nI (5 * k)))] [] := lw_next C0 (ih (k + 1) (by omega) F G N Q f g w _ _ hz (by omega) (by omega))
    have c1 : cells + 300 ≤ 601024 := by omega
    have s1 : slots + 17000 ≤ 7293034 := by omega
    have hi : 5 * k + 4 < Ls := by omega
    refine j_aload_n C0 dL_law_32 rfl ?_
    refine j_iload C0 dL_law_33 rfl ?_
    refine j_sld C0 hX hbl hbA (x := xs (5 * k)) (vp_in_nI (by omega) (by omega)) (by rw [nI_clamp (by omega)]) dL_law_35 ?_
    refine j_bipush C0 dL_law_36 (v := 31) rfl ?_
    refine j_iand C0 dL_law_38 ?_
    obtain ⟨r, hr9, er⟩ := pk_andE (xs (5 * k)) (m := 31) 5 (by decide)
    rw [er]
    have hcases : r = 0 ∨ r = 1 ∨ r = 2 ∨ r = 3 ∨ r = 4 ∨ r = 5 ∨ r = 6 ∨ r = 7 ∨ r = 8 ∨ r = 9 ∨ r = 10 ∨ r = 11 ∨ r = 12 ∨ r = 13 ∨ r = 14 ∨ r = 15 ∨ r = 16 ∨ r = 17 ∨ r = 18 ∨ r = 19 ∨ r = 20 ∨ r = 21 ∨ r = 22 ∨ r = 23 ∨ r = 24 ∨ 25 ≤ r := by omega
    rcases hcases with h | h | h | h | h | h | h | h | h | h | h | h | h | h | h | h | h | h | h | h | h | h | h | h | h | h
    · rw [h]
      exact j_tabIn C0 152 dL_law_39 (by decide) (by decide) rfl (by decide) (lc_table hsl C0 hX hbl hLs hi ho hro c1 s1 hz kk)
    · rw [h]
      exact j_tabIn C0 220 dL_law_39 (by decide) (by decide) rfl (by decide) (lc_wind hsl C0 hX hbl hLs hi ho hro c1 s1 hz kk)
    · rw [h]
      exact j_tabIn C0 300 dL_law_39 (by decide) (by decide) rfl (by decide) (lc_depth hsl C0 hX hbl hLs hi ho hro c1 s1 hz kk)
    · rw [h]
      exact j_tabIn C0 356 dL_law_39 (by decide) (by decide) rfl (by decide) (lc_berth hsl C0 hX hbl hLs hi ho hro c1 s1 hz kk)
    · rw [h]
      exact j_tabIn C0 424 dL_law_39 (by decide) (by decide) rfl (by decide) (lc_ship hsl C0 hX hbl hLs hi ho hro c1 s1 hz kk)
    · rw [h]
      exact j_tabIn C0 516 dL_law_39 (by decide) (by decide) rfl (by decide) (lc_order hsl C0 hX hbl hLs hi ho hro c1 s1 hz kk)
    · rw [h]
      exact j_tabIn C0 584 dL_law_39 (by decide) (by decide) rfl (by decide) (lc_cancel hsl C0 hX hbl hLs hi ho hro c1 s1 hz kk)
    · rw [h]
      exact j_tabIn C0 640 dL_law_39 (by decide) (by decide) rfl (by decide) (lc_hasWater hsl C0 hX hbl hLs hi ho hro c1 s1 hz kk)
    · rw [h]
      exact j_tabIn C0 715 dL_law_39 (by decide) (by decide) rfl (by decide) (lc_state hsl C0 hX hbl hLs hi ho hro c1 s1 hz kk)
    · rw [h]
      exact j_tabIn C0 771 dL_law_39 (by decide) (by decide) rfl (by decide) (lc_queue hsl C0 hX hbl hLs hi ho hro c1 s1 hz kk)
    · rw [h]
      exact j_tabIn C0 827 dL_law_39 (by decide) (by decide) rfl (by decide) (lc_pass hsl C0 hX hbl hLs hi ho hro c1 s1 hz kk)
    · rw [h]
      exact j_tabIn C0 883 dL_law_39 (by decide) (by decide) rfl (by decide) (lc_swap hsl C0 hX hbl hLs hi ho hro c1 s1 hz kk)
    · rw [h]
      exact j_tabIn C0 951 dL_law_39 (by decide) (by decide) rfl (by decide) (lc_rota hsl C0 hX hbl hLs hi ho hro c1 s1 hz kk)
    · rw [h]
      exact j_tabIn C0 1007 dL_law_39 (by decide) (by decide) rfl (by decide) (lc_isReady hsl C0 hX hbl hLs hi ho hro c1 s1 hz kk)
    · rw [h]
      exact j_tabIn C0 1070 dL_law_39 (by decide) (by decide) rfl (by decide) (lc_tugs hsl C0 hX hbl hLs hi ho hro c1 s1 hz kk)
    · rw [h]
      exact j_tabIn C0 1083 dL_law_39 (by decide) (by decide) rfl (by decide) (lc_moves hsl C0 hX hbl hLs hi ho hro c1 s1 hz kk)
    · rw [h]
      exact j_tabIn C0 1096 dL_law_39 (by decide) (by decide) rfl (by decide) (lc_move hsl C0 hX hbl hLs hi ho hro c1 s1 hz kk)
    · rw [h]
      exact j_tabIn C0 1152 dL_law_39 (by decide) (by decide) rfl (by decide) (lc_isSound hsl C0 hX hbl hLs hi ho hro c1 s1 hz kk)
    · rw [h]
      exact j_tabIn C0 1215 dL_law_39 (by decide) (by decide) rfl (by decide) (lc_paid hsl C0 hX hbl hLs hi ho hro c1 s1 hz kk)
    · rw [h]
      exact j_tabIn C0 1271 dL_law_39 (by decide) (by decide) rfl (by decide) (lc_earned hsl C0 hX hbl hLs hi ho hro c1 s1 hz kk)
    · rw [h]
      exact j_tabIn C0 1327 dL_law_39 (by decide) (by decide) rfl (by decide) (lc_tugPay hsl C0 hX hbl hLs hi ho hro c1 s1 hz kk)
    · rw [h]
      exact j_tabIn C0 1340 dL_law_39 (by decide) (by decide) rfl (by decide) (lc_port hsl C0 hX hbl hLs hi ho hro c1 s1 hz kk)
    · rw [h]
      exact j_tabIn C0 1353 dL_law_39 (by decide) (by decide) rfl (by decide) (lc_lost hsl C0 hX hbl hLs hi ho hro c1 s1 hz kk)
    · rw [h]
      exact j_tabIn C0 1409 dL_law_39 (by decide) (by decide) rfl (by decide) (lc_claims hsl C0 hX hbl hLs hi ho hro c1 s1 hz kk)
    · rw [h]
      exact j_tabIn C0 1465 dL_law_39 (by decide) (by decide) rfl (by decide) (lc_payClaim hsl C0 hX hbl hLs hi ho hro c1 s1 hz kk)
    · have e9 : (nI r).toInt = r := nI_toInt (by omega)
      exact j_tabOut C0 1521 dL_law_39 (Or.inr (by rw [e9]; omega)) (by decide) kd
end
