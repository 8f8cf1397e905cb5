/-! ## java.util.ArrayList over a world by names -/
section JL
variable {p : Program} {l : Launch} {e : Env} {R : Room} {s : State} {m : MethodId} {args : Array Value} {below : List Frame} {meth : Method} {c : Code} {Q : State → Prop} {cells slots pc nL : Nat} {L : List (Nat × Value)} {st : List Value} {D : va_G} {A : Nat → Prop} {cel : NMs}
theorem j_nm {nm : Nat} {x : Nat × va_E} (kk : ∀ cel' : NMs, cel' nm = some x → (∀ n, n ≠ nm → cel' n = cel n) → J p l e R s m args below meth c A nL Q (NW D A cel') cells slots pc L st) : J p l e R s m args below meth c A nL Q (NW D A (va_up cel nm (some x))) cells slots pc L st := kk _ (up_same _ _ _) (fun _ h => up_ne _ _ h)
end JL
abbrev LC (mc : Int32) (aa : Nat) (n : Int32) : va_E := .inr (2, [.int mc, .ref aa, .int n])
theorem nfwA : nativeFrameWords "java/lang/System" "arraycopy" 5 = 7 := by decide +kernel
theorem cl0 : (0 : Int32).toNatClampNeg = 0 := by decide +kernel
theorem lt_nn {a b : Nat} (h : b < a) (ha : a < 2 ^ 31) : ¬ nI a ≤ nI b := nI_ge h ha
/-- an object that a row of Objects may hold, at a name that is neither kl nor ka -/
def OBN (cel : NMs) (kl ka v : Nat) : Prop := ∃ (nm ci : Nat) (fs : List Value) (r : vw_C), nm ≠ kl ∧ nm ≠ ka ∧ cel nm = some (v, .inr (ci, fs)) ∧ vwCl[ci]? = some r ∧ Cond.castable r.1 "java/lang/Object" ∈ XB
theorem OBN.of {cel cel' : NMs} {kl ka v : Nat} (h : OBN cel kl ka v) (hf : ∀ n, n ≠ kl → n ≠ ka → cel' n = cel n) : OBN cel' kl ka v := by
  obtain ⟨nm, ci, fs, r, h1, h2, h3, h4, h5⟩ := h
  exact ⟨nm, ci, fs, r, h1, h2, (hf nm h1 h2).trans h3, h4, h5⟩
theorem OBN.ofK {cel cel' : NMs} {kl ka kb v : Nat} (h : OBN cel kl ka v) (hk : cel kb = none) (hf : ∀ n, n ≠ kl → n ≠ ka → n ≠ kb → cel' n = cel n) : OBN cel' kl ka v := by
  obtain ⟨nm, ci, fs, r, h1, h2, h3, h4, h5⟩ := h
  exact ⟨nm, ci, fs, r, h1, h2, (hf nm h1 h2 (fun z => by rw [z, hk] at h3; cases h3)).trans h3, h4, h5⟩
theorem OBN.ob {cel : NMs} {kl ka v tE mi : Nat} {A : Nat → Prop} {s : State} (h : OBN cel kl ka v) (hE : EC A tE mi s) : OB cel s v := by
  obtain ⟨nm, ci, fs, r, -, -, h3, h4, h5⟩ := h
  exact ⟨nm, ci, fs, r, h3, h4, hE.2.2.2.2.1 _ h5⟩
/-! ## checkIndex(IILjava/util/function/BiFunction;)I -/
set_option maxRecDepth 100000 in
set_option maxHeartbeats 4000000 in
theorem k_J3_checkIndex_8e157 {l : Launch} (hsl : l.stackTraces = false) {D : va_G} {Y : Nat → ClassId} {A : Nat → Prop} {E : State → Prop} {Ω : Heap → Prop} {i n : Int32} (h0 : ¬ i < 0) (h1 : i < n) : KM l yJ3_checkIndex_8e157 cJ3_checkIndex_8e157 3 (some .int) D Y A E 0 0 0 0 [.int (i), .int (n), .null] Ω (some (.int i)) Ω := by
  refine KM_of RJ3 [(0, .int (i)), (1, .int (n)), (2, .null)] rfl (by decide) hsl (Nat.le_of_ble_eq_true rfl) rfl (lok_of rfl rfl) ?_
  intro p e s m args below meth c C0
  refine j_iload_n C0 dJ3_checkIndex_8e157_0 rfl ?_
  refine j_if_lt C0 9 dJ3_checkIndex_8e157_1 (by decide) (fun z => absurd z h0) (fun _ => ?_)
  refine j_iload_n C0 dJ3_checkIndex_8e157_4 rfl ?_
  refine j_iload_n C0 dJ3_checkIndex_8e157_5 rfl ?_
  refine j_icmp_lt C0 16 dJ3_checkIndex_8e157_6 (by decide) (fun _ => ?_) (fun z => absurd h1 z)
  refine j_iload_n C0 dJ3_checkIndex_8e157_16 rfl ?_
  exact j_iret C0 rfl dJ3_checkIndex_8e157_17 (fun H h => h)
/-! ## checkIndex(II)I -/
set_option maxRecDepth 100000 in
set_option maxHeartbeats 4000000 in
theorem k_J15_checkIndex_7cf53 {l : Launch} (hsl : l.stackTraces = false) {D : va_G} {Y : Nat → ClassId} {A : Nat → Prop} {E : State → Prop} {Ω : Heap → Prop} {i n : Int32} (h0 : ¬ i < 0) (h1 : i < n) : KM l yJ15_checkIndex_7cf53 cJ15_checkIndex_7cf53 2 (some .int) D Y A E 1 30 0 0 [.int (i), .int (n)] Ω (some (.int i)) Ω := by
  refine KM_of RJ15 [(0, .int (i)), (1, .int (n))] rfl (by decide) hsl (Nat.le_of_ble_eq_true rfl) rfl (lok_of rfl rfl) ?_
  intro p e s m args below meth c C0
  refine j_iload_n C0 dJ15_checkIndex_7cf53_0 rfl ?_
  refine j_iload_n C0 dJ15_checkIndex_7cf53_1 rfl ?_
  refine j_null C0 dJ15_checkIndex_7cf53_2 ?_
  refine j_callSv C0 (k_J3_checkIndex_8e157 hsl h0 h1) ms_J3_checkIndex_8e157 wm_J15_105 rfl rfl ⟨Nat.le_of_ble_eq_true rfl, Nat.le_of_ble_eq_true rfl⟩ (Nat.le_of_ble_eq_true rfl) ⟨Nat.le_of_ble_eq_true rfl, Nat.le_of_ble_eq_true rfl⟩ dJ15_checkIndex_7cf53_3 ?_
  exact j_iret C0 rfl dJ15_checkIndex_7cf53_6 (fun H h => h)
/-! ## size()I -/
set_option maxRecDepth 100000 in
set_option maxHeartbeats 4000000 in
theorem k_Jx4a65c_size_8abf5 {l : Launch} (hsl : l.stackTraces = false) {D : va_G} {Y : Nat → ClassId} {A : Nat → Prop} {E : State → Prop} {cel : NMs} {kl la : Nat} {mc n : Int32} {aa : Nat} (hl : cel kl = some (la, LC mc aa n)) : KM l yJx4a65c_size_8abf5 cJx4a65c_size_8abf5 1 (some .int) D Y A E 0 0 0 0 [.ref (la)] (NW D A cel) (some (.int n)) (NW D A cel) := by
  refine KM_of RJx4a65c [(0, .ref (la))] rfl (by decide) hsl (Nat.le_of_ble_eq_true rfl) rfl (lok_of rfl rfl) ?_
  intro p e s m args below meth c C0
  refine j_aload_n C0 dJx4a65c_size_8abf5_0 rfl ?_
  refine n_get C0 in_Jx4a65c (ci := 2) rfl kl hl 2 (by decide) wf_Jx4a65c_48 rfl dJx4a65c_size_8abf5_1 ?_
  exact j_iret C0 rfl dJx4a65c_size_8abf5_4 (fun H h => h)
/-! ## elementData(I)Ljava/lang/Object; -/
set_option maxRecDepth 100000 in
set_option maxHeartbeats 4000000 in
theorem k_Jx4a65c_elementData_915e3 {l : Launch} (hsl : l.stackTraces = false) {D : va_G} {Y : Nat → ClassId} {A : Nat → Prop} {E : State → Prop} {cel : NMs} {kl la : Nat} {mc n : Int32} {aa : Nat} {ka cap : Nat} {f : Nat → Option Nat} {i : Int32} (hl : cel kl = some (la, LC mc aa n)) (ha : cel ka = some (aa, qr Y cap f)) (hi : vp_in i cap) {v : Nat} (hv : f i.toNatClampNeg = some v) : KM l yJx4a65c_elementData_915e3 cJx4a65c_elementData_915e3 2 (some (.object "java/lang/Object")) D Y A E 0 0 0 0 [.ref (la), .int (i)] (NW D A cel) (some (.ref v)) (NW D A cel) := by
  refine KM_of RJx4a65c [(0, .ref (la)), (1, .int (i))] rfl (by decide) hsl (Nat.le_of_ble_eq_true rfl) rfl (lok_of rfl rfl) ?_
  intro p e s m args below meth c C0
  refine j_aload_n C0 dJx4a65c_elementData_915e3_0 rfl ?_
  refine n_get C0 in_Jx4a65c (ci := 2) rfl kl hl 1 (by decide) wf_Jx4a65c_9 rfl dJx4a65c_elementData_915e3_1 ?_
  refine j_iload_n C0 dJx4a65c_elementData_915e3_4 rfl ?_
  refine n_aald C0 ka ha hi hv dJx4a65c_elementData_915e3_5 ?_
  exact j_aret C0 rfl (Or.inl ⟨_, rfl⟩) dJx4a65c_elementData_915e3_6 (fun H h => h)
/-! ## get(I)Ljava/lang/Object; -/
set_option maxRecDepth 100000 in
set_option maxHeartbeats 4000000 in
theorem k_Jx4a65c_get_915e3 {l : Launch} (hsl : l.stackTraces = false) {D : va_G} {Y : Nat → ClassId} {A : Nat → Prop} {E : State → Prop} {cel : NMs} {kl la : Nat} {mc n : Int32} {aa : Nat} {ka cap : Nat} {f : Nat → Option Nat} {i : Int32} (hl : cel kl = some (la, LC mc aa n)) (ha : cel ka = some (aa, qr Y cap f)) (h0 : ¬ i < 0) (h1 : i < n) (hi : vp_in i cap) {v : Nat} (hv : f i.toNatClampNeg = some v) : KM l yJx4a65c_get_915e3 cJx4a65c_get_915e3 2 (some (.object "java/lang/Object")) D Y A E 2 60 0 0 [.ref (la), .int (i)] (NW D A cel) (some (.ref v)) (NW D A cel) := by
  refine KM_of RJx4a65c [(0, .ref (la)), (1, .int (i))] rfl (by decide) hsl (Nat.le_of_ble_eq_true rfl) rfl (lok_of rfl rfl) ?_
  intro p e s m args below meth c C0
  refine j_iload_n C0 dJx4a65c_get_915e3_0 rfl ?_
  refine j_aload_n C0 dJx4a65c_get_915e3_1 rfl ?_
  refine n_get C0 in_Jx4a65c (ci := 2) rfl kl hl 2 (by decide) wf_Jx4a65c_48 rfl dJx4a65c_get_915e3_2 ?_
  refine j_callSv C0 (k_J15_checkIndex_7cf53 hsl h0 h1) ms_J15_checkIndex_7cf53 wm_Jx4a65c_118 rfl rfl ⟨Nat.le_of_ble_eq_true rfl, Nat.le_of_ble_eq_true rfl⟩ (Nat.le_of_ble_eq_true rfl) ⟨Nat.le_of_ble_eq_true rfl, Nat.le_of_ble_eq_true rfl⟩ dJx4a65c_get_915e3_5 ?_
  refine j_pop C0 dJx4a65c_get_915e3_8 rfl ?_
  refine j_aload_n C0 dJx4a65c_get_915e3_9 rfl ?_
  refine j_iload_n C0 dJx4a65c_get_915e3_10 rfl ?_
  refine j_callVv C0 (k_Jx4a65c_elementData_915e3 hsl hl ha hi hv) mv_Jx4a65c_elementData_915e3 wm_Jx4a65c_123 (n_recv C0 rfl kl hl) rfl rfl ⟨Nat.le_of_ble_eq_true rfl, Nat.le_of_ble_eq_true rfl⟩ (Nat.le_of_ble_eq_true rfl) ⟨Nat.le_of_ble_eq_true rfl, Nat.le_of_ble_eq_true rfl⟩ dJx4a65c_get_915e3_11 ?_
  exact j_aret C0 rfl (Or.inl ⟨_, rfl⟩) dJx4a65c_get_915e3_14 (fun H h => h)
/-! ## rangeCheckForAdd(I)V -/
set_option maxRecDepth 100000 in
set_option maxHeartbeats 4000000 in
theorem k_Jx4a65c_rangeCheckForAdd_d00df {l : Launch} (hsl : l.stackTraces = false) {D : va_G} {Y : Nat → ClassId} {A : Nat → Prop} {E : State → Prop} {cel : NMs} {kl la : Nat} {mc n : Int32} {aa : Nat} {i : Int32} (hl : cel kl = some (la, LC mc aa n)) (h0 : ¬ n < i) (h1 : 0 ≤ i) : KM l yJx4a65c_rangeCheckForAdd_d00df cJx4a65c_rangeCheckForAdd_d00df 2 none D Y A E 0 0 0 0 [.ref (la), .int (i)] (NW D A cel) none (NW D A cel) := by
  refine KM_of RJx4a65c [(0, .ref (la)), (1, .int (i))] rfl (by decide) hsl (Nat.le_of_ble_eq_true rfl) rfl (lok_of rfl rfl) ?_
  intro p e s m args below meth c C0
  refine j_iload_n C0 dJx4a65c_rangeCheckForAdd_d00df_0 rfl ?_
  refine j_aload_n C0 dJx4a65c_rangeCheckForAdd_d00df_1 rfl ?_
  refine n_get C0 in_Jx4a65c (ci := 2) rfl kl hl 2 (by decide) wf_Jx4a65c_48 rfl dJx4a65c_rangeCheckForAdd_d00df_2 ?_
  refine j_icmp_gt C0 12 dJx4a65c_rangeCheckForAdd_d00df_5 (by decide) (fun z => absurd z h0) (fun _ => ?_)
  refine j_iload_n C0 dJx4a65c_rangeCheckForAdd_d00df_8 rfl ?_
  refine j_if_ge C0 25 dJx4a65c_rangeCheckForAdd_d00df_9 (by decide) (fun _ => ?_) (fun z => absurd h1 z)
  exact j_vret C0 rfl dJx4a65c_rangeCheckForAdd_d00df_25 (fun H h => h)
/-! ## newLength(III)I -/
set_option maxRecDepth 100000 in
set_option maxHeartbeats 4000000 in
theorem k_J8_newLength_cabcc {l : Launch} (hsl : l.stackTraces = false) {D : va_G} {Y : Nat → ClassId} {A : Nat → Prop} {E : State → Prop} {Ω : Heap → Prop} {a b g : Int32} (h0 : ¬ (a + (if b < g then g else b)) ≤ 0) (h1 : ¬ 2147483639 < (a + (if b < g then g else b))) : KM l yJ8_newLength_cabcc cJ8_newLength_cabcc 4 (some .int) D Y A E 1 40 0 0 [.int (a), .int (b), .int (g)] Ω (some (.int (a + (if b < g then g else b)))) Ω := by
  refine KM_of RJ8 [(0, .int (a)), (1, .int (b)), (2, .int (g))] rfl (by decide) hsl (Nat.le_of_ble_eq_true rfl) rfl (lok_of rfl rfl) ?_
  intro p e s m args below meth c C0
  refine j_iload_n C0 dJ8_newLength_cabcc_0 rfl ?_
  refine j_iload_n C0 dJ8_newLength_cabcc_1 rfl ?_
  refine j_iload_n C0 dJ8_newLength_cabcc_2 rfl ?_
  refine j_mmax C0 wm_J8_194 w_max_st w_math w_max_co (Nat.le_of_ble_eq_true rfl) (Nat.le_of_ble_eq_true rfl) (Nat.le_of_ble_eq_true rfl) (Nat.le_of_ble_eq_true rfl) dJ8_newLength_cabcc_3 ?_
  refine j_iadd C0 dJ8_newLength_cabcc_6 ?_
  refine j_istore_n C0 (L' := [(0, .int (a)), (1, .int (b)), (2, .int (g)), (3, .int ((a + (if b < g then g else b))))]) dJ8_newLength_cabcc_7 (by decide) rfl ?_
  refine j_iconst C0 (v := 0) dJ8_newLength_cabcc_8 (by decide) ?_
  refine j_iload_n C0 dJ8_newLength_cabcc_9 rfl ?_
  refine j_icmp_ge C0 21 dJ8_newLength_cabcc_10 (by decide) (fun z => absurd z h0) (fun _ => ?_)
  refine j_iload_n C0 dJ8_newLength_cabcc_13 rfl ?_
  refine j_ldc C0 w_k200 dJ8_newLength_cabcc_14 ?_
  refine j_icmp_gt C0 21 dJ8_newLength_cabcc_16 (by decide) (fun z => absurd z h1) (fun _ => ?_)
  refine j_iload_n C0 dJ8_newLength_cabcc_19 rfl ?_
  exact j_iret C0 rfl dJ8_newLength_cabcc_20 (fun H h => h)
/-- after a copy: the new row lies at the name kb -/
def CPO (D : va_G) (Y : Nat → ClassId) (A : Nat → Prop) (cel : NMs) (kb cap N : Nat) (f : Nat → Option Nat) : Option Value → Heap → Prop := fun rv H => ∃ (q : Nat) (cel' : NMs) (f' : Nat → Option Nat), rv = some (.ref q) ∧ cel' kb = some (q, qr Y N f') ∧ (∀ j, j < cap → f' j = f j) ∧ (∀ n, n ≠ kb → cel' n = cel n) ∧ NW D A cel' H
section JL2
variable {p : Program} {l : Launch} {e : Env} {R : Room} {s : State} {m : MethodId} {args : Array Value} {below : List Frame} {meth : Method} {c : Code} {Q : State → Prop} {cells slots pc nL : Nat} {L : List (Nat × Value)} {st : List Value} {D : va_G} {Y : Nat → ClassId} {A : Nat → Prop} {cel : NMs}
theorem j_CPO {kb cap N : Nat} {f : Nat → Option Nat} {rv : Option Value} (kk : ∀ (q : Nat) (cel' : NMs) (f' : Nat → Option Nat), cel' kb = some (q, qr Y N f') → (∀ j, j < cap → f' j = f j) → (∀ n, n ≠ kb → cel' n = cel n) → J p l e R s m args below meth c A nL Q (NW D A cel') cells slots pc L (.ref q :: st)) : J p l e R s m args below meth c A nL Q (CPO D Y A cel kb cap N f rv) cells slots pc L (rv.toList ++ st) :=
  j_ex (fun q => j_ex (fun cel' => j_ex (fun f' => j_and (fun h1 => by
    subst h1
    exact j_and (fun h2 => j_and (fun h3 => j_and (fun h4 => kk q cel' f' h2 h3 h4)))))))
end JL2
/-! ## copyOf([Ljava/lang/Object;ILjava/lang/Class;)[Ljava/lang/Object; -/
set_option maxRecDepth 100000 in
set_option maxHeartbeats 4000000 in
theorem k_J7_copyOf_6403c {l : Launch} (hsl : l.stackTraces = false) {D : va_G} {Y : Nat → ClassId} {A : Nat → Prop} {E : State → Prop} {tE mi : Nat} (hE : ∀ U, E U → EC A tE mi U) {cel : NMs} {aa : Nat} {ka cap : Nat} {f : Nat → Option Nat} {kb N : Nat} (ha : cel ka = some (aa, qr Y cap f)) (hba : ka ≠ kb) (hcN : cap ≤ N) (hN : N ≤ 160) (hO : ∀ i : Nat, i < cap → ∀ y : Nat, f i = some y → ∃ kl, OBN cel kl kb y) : KE l yJ7_copyOf_6403c cJ7_copyOf_6403c 4 (some (.array (.object "java/lang/Object"))) D Y A E 1 60 1 160 [.ref (aa), .int (nI N), .ref (mi)] (NW D A cel)  (CPO D Y A cel kb cap N f) := by
  refine KE_of RJ7 [(0, .ref (aa)), (1, .int (nI N)), (2, .ref (mi))] rfl (by decide) hsl (Nat.le_of_ble_eq_true rfl) rfl (lok_of rfl rfl) ?_
  intro p e s m args below meth c C0
  refine j_aload_n C0 dJ7_copyOf_6403c_0 rfl ?_
  refine j_ldcM C0 hE wc_J7_110 dJ7_copyOf_6403c_1 ?_
  refine j_acmp_ne C0 13 dJ7_copyOf_6403c_3 (by decide) (fun z => absurd rfl z) (fun _ => ?_)
  refine j_iload_n C0 dJ7_copyOf_6403c_6 rfl ?_
  refine n_anew C0 kb hE wc_J7_2 (nI_pos (by omega)) (nI_clamp (by omega)) (by omega) (Nat.le_of_ble_eq_true rfl) (show 0 + N ≤ 160 by omega) dJ7_copyOf_6403c_7 (fun q => ?_)
  refine j_nm (fun cel1 e1 f1 => ?_)
  refine j_goto C0 24 dJ7_copyOf_6403c_10 (by decide) ?_
  refine j_astore_n C0 (L' := [(0, .ref (aa)), (1, .int (nI N)), (2, .ref (mi)), (3, .ref (q))]) dJ7_copyOf_6403c_24 (by decide) rfl ?_
  refine j_aload_n C0 dJ7_copyOf_6403c_25 rfl ?_
  refine j_iconst C0 (v := 0) dJ7_copyOf_6403c_26 (by decide) ?_
  refine j_aload_n C0 dJ7_copyOf_6403c_27 rfl ?_
  refine j_iconst C0 (v := 0) dJ7_copyOf_6403c_28 (by decide) ?_
  refine j_aload_n C0 dJ7_copyOf_6403c_29 rfl ?_
  refine n_alen C0 ka 2 ((f1 ka hba).trans ha) rfl rfl dJ7_copyOf_6403c_30 ?_
  refine j_iload_n C0 dJ7_copyOf_6403c_31 rfl ?_
  refine j_mmin C0 wm_J7_304 w_min_st w_math w_min_co (Nat.le_of_ble_eq_true rfl) (Nat.le_of_ble_eq_true rfl) (Nat.le_of_ble_eq_true rfl) (show 0 + N ≤ 160 by omega) dJ7_copyOf_6403c_32 ?_
  refine j_top (nI cap) (if_neg (nI_nlt hcN (by omega))) ?_
  refine n_copyM C0 ka kb ((f1 ka hba).trans ha) e1 (by decide) (by decide) (nI_pos (by omega)) (by rw [cl0, nI_clamp (by omega)]; omega) (by rw [cl0, nI_clamp (by omega)]; omega) (fun i hi y hy => ?_) w_ac_J7 w_ac_nat w_ac_st w_sys (Nat.le_of_ble_eq_true rfl) (by rw [nfwA]; exact Nat.le_of_ble_eq_true rfl) dJ7_copyOf_6403c_35 ?_
  ·
    rw [cl0, Nat.zero_add] at hy
    rw [nI_clamp (by omega)] at hi
    obtain ⟨kl, nm, ci, fs, r, g1, g2, g3, g4, g5⟩ := hO i hi y hy
    exact ⟨nm, ci, fs, r, (f1 nm g2).trans g3, g4, (hE s C0.2.2.2.2.2.2.2.1.2.2.1).2.2.2.2.1 _ g5⟩
  refine j_nm (fun cel2 e2 f2 => ?_)
  refine j_aload_n C0 dJ7_copyOf_6403c_38 rfl ?_
  refine j_widen (k := 1) (n := 160) (Nat.le_refl _) (by omega) ?_
  exact j_eret (Ω' := NW D A cel2) (j_aret C0 rfl (Or.inr ⟨_, rfl⟩) dJ7_copyOf_6403c_39 (fun H h => h)) (fun H h => ⟨q, _, _, rfl, e2, fun j hj => by rw [cl0, nI_clamp (by omega), pk_cpy_in (Nat.zero_le _) (by omega), Nat.zero_add, Nat.sub_zero], fun n hn => (f2 n hn).trans (f1 n hn), h⟩)
/-! ## copyOf([Ljava/lang/Object;I)[Ljava/lang/Object; -/
set_option maxRecDepth 100000 in
set_option maxHeartbeats 4000000 in
theorem k_J7_copyOf_1904c {l : Launch} (hsl : l.stackTraces = false) {D : va_G} {Y : Nat → ClassId} {A : Nat → Prop} {E : State → Prop} {tE mi : Nat} (hE : ∀ U, E U → EC A tE mi U) {cel : NMs} {aa : Nat} {ka cap : Nat} {f : Nat → Option Nat} {kb N : Nat} (ha : cel ka = some (aa, qr Y cap f)) (hba : ka ≠ kb) (hcN : cap ≤ N) (hN : N ≤ 160) (hO : ∀ i : Nat, i < cap → ∀ y : Nat, f i = some y → ∃ kl, OBN cel kl kb y) : KE l yJ7_copyOf_1904c cJ7_copyOf_1904c 2 (some (.array (.object "java/lang/Object"))) D Y A E 2 90 1 160 [.ref (aa), .int (nI N)] (NW D A cel)  (CPO D Y A cel kb cap N f) := by
  refine KE_of RJ7 [(0, .ref (aa)), (1, .int (nI N))] rfl (by decide) hsl (Nat.le_of_ble_eq_true rfl) rfl (lok_of rfl rfl) ?_
  intro p e s m args below meth c C0
  refine j_aload_n C0 dJ7_copyOf_1904c_0 rfl ?_
  refine j_iload_n C0 dJ7_copyOf_1904c_1 rfl ?_
  refine j_aload_n C0 dJ7_copyOf_1904c_2 rfl ?_
  refine n_getC C0 hE ka ha w_gc_l w_gc_d w_gc_s w_gc_i w_gc_n (Nat.le_of_ble_eq_true rfl) (Nat.le_of_ble_eq_true rfl) dJ7_copyOf_1904c_3 ?_
  refine j_callSE C0 (k_J7_copyOf_6403c hsl hE ha hba hcN hN hO) ms_J7_copyOf_6403c wm_J7_300 rfl rfl ⟨Nat.le_of_ble_eq_true rfl, Nat.le_of_ble_eq_true rfl⟩ (Nat.le_of_ble_eq_true rfl) ⟨Nat.le_of_ble_eq_true rfl, Nat.le_of_ble_eq_true rfl⟩ dJ7_copyOf_1904c_6 (fun rv => ?_)
  refine j_CPO (fun q cel1 f1 g1 g2 g3 => ?_)
  exact j_eret (Ω' := NW D A cel1) (j_aret C0 rfl (Or.inr ⟨_, rfl⟩) dJ7_copyOf_1904c_9 (fun H h => h)) (fun H h => ⟨q, _, _, rfl, g1, g2, g3, h⟩)
theorem nI_gt0 {k : Nat} (h : 0 < k) (h2 : k < 2 ^ 31) : (0 : Int32) < nI k := by
  rw [← nI_0]
  exact nI_lt h h2
def gN (k : Nat) : Nat := k + (if 1 < k / 2 then k / 2 else 1)
theorem gN_eq : ∀ k, k < 101 → 0 < k → nI k + (if (nI k + 1 - nI k) < (nI k >>> ((1 : Int32) &&& 31)) then (nI k >>> ((1 : Int32) &&& 31)) else (nI k + 1 - nI k)) = nI (gN k) := by decide +kernel
theorem gN_lt (k : Nat) : k < gN k := by unfold gN; split <;> omega
theorem gN_le {k : Nat} (h : k ≤ 100) : gN k ≤ 160 := by unfold gN; split <;> omega
theorem NW.mv {D : va_G} {A : Nat → Prop} {cel : NMs} {ka kb : Nat} {c : Nat × va_E} (hne : ka ≠ kb) (hb : cel kb = some c) : ∀ H, NW D A cel H → NW D A (va_up (va_up cel ka (some c)) kb none) H := by
  intro H ⟨ws, pos, h, h1⟩
  refine ⟨ws, va_up pos ka (pos kb), ⟨fun m x hm => ?_, fun m m' x x' hm hm' hp => ?_⟩, h1⟩
  · by_cases e : m = kb
    · rw [e, up_same] at hm; cases hm
    · rw [up_ne _ _ e] at hm
      by_cases e2 : m = ka
      · rw [e2, up_same] at hm ⊢
        cases hm
        exact h.1 kb c hb
      · rw [up_ne _ _ e2] at hm ⊢
        exact h.1 m x hm
  · have k1 : ∀ n y, va_up (va_up cel ka (some c)) kb none n = some y → n ≠ kb := fun n y hn z => by rw [z, up_same] at hn; cases hn
    have a1 := k1 m x hm
    have a2 := k1 m' x' hm'
    rw [up_ne _ _ a1] at hm
    rw [up_ne _ _ a2] at hm'
    by_cases b1 : m = ka
    · by_cases b2 : m' = ka
      · rw [b1, b2]
      · rw [up_ne _ _ b2] at hm' hp
        rw [b1, up_same] at hp
        exact absurd (h.2 kb m' c x' hb hm' hp).symm a2
    · rw [up_ne _ _ b1] at hm hp
      by_cases b2 : m' = ka
      · rw [b2, up_same] at hp
        exact absurd (h.2 m kb x c hm hb hp) a1
      · rw [up_ne _ _ b2] at hm' hp
        exact h.2 m m' x x' hm hm' hp
/-- the row that a list holds -/
def LR (Y : Nat → ClassId) (cel : NMs) (ka aa k : Nat) (g : Nat → Nat) (cap : Nat) (f : Nat → Option Nat) : Prop := cel ka = some (aa, qr Y cap f) ∧ k ≤ cap ∧ 1 ≤ cap ∧ cap ≤ 160 ∧ ∀ j, j < k → f j = some (g j)
/-- a list of the k objects g, at the names kl (itself) and ka (its row, if it has one of its own) -/
def LI (tE : Nat) (Y : Nat → ClassId) (cel : NMs) (kl ka la : Nat) (mc : Int32) (aa k : Nat) (g : Nat → Nat) : Prop := cel kl = some (la, LC mc aa (nI k)) ∧ ((aa = tE ∧ k = 0) ∨ ∃ cap f, LR Y cel ka aa k g cap f)
/-- after growing -/
def GR (D : va_G) (Y : Nat → ClassId) (A : Nat → Prop) (cel : NMs) (kl ka la : Nat) (mc : Int32) (k : Nat) (g : Nat → Nat) : Option Value → Heap → Prop := fun rv H => ∃ (q : Nat) (cel' : NMs) (cap : Nat) (f : Nat → Option Nat), rv = some (.ref q) ∧ cel' kl = some (la, LC mc q (nI k)) ∧ LR Y cel' ka q k g cap f ∧ k < cap ∧ (∀ n, n ≠ kl → n ≠ ka → cel' n = cel n) ∧ NW D A cel' H
/-- after a change of the list -/
def LPo (tE : Nat) (D : va_G) (Y : Nat → ClassId) (A : Nat → Prop) (cel : NMs) (kl ka la k : Nat) (g : Nat → Nat) (r : Option Value) : Option Value → Heap → Prop := fun rv H => ∃ (q : Nat) (cel' : NMs) (mc : Int32), rv = r ∧ LI tE Y cel' kl ka la mc q k g ∧ (∀ n, n ≠ kl → n ≠ ka → cel' n = cel n) ∧ NW D A cel' H
def insG (g : Nat → Nat) (i v : Nat) : Nat → Nat := fun j => if j < i then g j else if j = i then v else g (j - 1)
def delG (g : Nat → Nat) (i : Nat) : Nat → Nat := fun j => if j < i then g j else g (j + 1)
theorem addG {k : Nat} {f : Nat → Option Nat} {g : Nat → Nat} {v : Nat} (h : ∀ j, j < k → f j = some (g j)) : ∀ j, j < k + 1 → va_up f k (some v) j = some (va_up g k v j) := by
  intro j hj
  by_cases e : j = k
  · rw [e, up_same, up_same]
  · rw [up_ne _ _ e, up_ne _ _ e]
    exact h j (by omega)
theorem insG_of {k i : Nat} {f : Nat → Option Nat} {g : Nat → Nat} {v : Nat} (hi : i ≤ k) (h : ∀ j, j < k → f j = some (g j)) : ∀ j, j < k + 1 → va_up (va_cpy f f i (i + 1) (k - i)) i (some v) j = some (insG g i v j) := by
  intro j hj
  unfold insG
  by_cases e : j = i
  · subst e
    rw [up_same, if_neg (Nat.lt_irrefl _), if_pos rfl]
  · rw [up_ne _ _ e]
    by_cases e2 : j < i
    · rw [if_pos e2, pk_cpy_out (Or.inl (by omega))]
      exact h j (by omega)
    · rw [if_neg e2, if_neg e, pk_cpy_in (by omega) (by omega), show i + (j - (i + 1)) = j - 1 by omega]
      exact h _ (by omega)
theorem delG_of {k i : Nat} {f : Nat → Option Nat} {g : Nat → Nat} (hi : i + 1 < k) (h : ∀ j, j < k → f j = some (g j)) : ∀ j, j < k - 1 → va_up (va_cpy f f (i + 1) i (k - 1 - i)) (k - 1) none j = some (delG g i j) := by
  intro j hj
  unfold delG
  rw [up_ne _ _ (by omega)]
  by_cases e2 : j < i
  · rw [if_pos e2, pk_cpy_out (Or.inl (by omega))]
    exact h j (by omega)
  · rw [if_neg e2, pk_cpy_in (by omega) (by omega), show i + 1 + (j - i) = j + 1 by omega]
    exact h _ (by omega)
theorem delG_last {k i : Nat} {f : Nat → Option Nat} {g : Nat → Nat} (hi : i + 1 = k) (h : ∀ j, j < k → f j = some (g j)) : ∀ j, j < k - 1 → va_up f (k - 1) none j = some (delG g i j) := by
  intro j hj
  unfold delG
  rw [up_ne _ _ (by omega), if_pos (by omega)]
  exact h j (by omega)
section JL3
variable {p : Program} {l : Launch} {e : Env} {R : Room} {s : State} {m : MethodId} {args : Array Value} {below : List Frame} {meth : Method} {c : Code} {Q : State → Prop} {cells slots pc nL : Nat} {L : List (Nat × Value)} {st : List Value} {D : va_G} {Y : Nat → ClassId} {A : Nat → Prop} {cel : NMs}
theorem j_GR {kl ka la k : Nat} {mc : Int32} {g : Nat → Nat} {rv : Option Value} (kk : ∀ (q : Nat) (cel' : NMs) (cap : Nat) (f : Nat → Option Nat), cel' kl = some (la, LC mc q (nI k)) → LR Y cel' ka q k g cap f → k < cap → (∀ n, n ≠ kl → n ≠ ka → cel' n = cel n) → J p l e R s m args below meth c A nL Q (NW D A cel') cells slots pc L (.ref q :: st)) : J p l e R s m args below meth c A nL Q (GR D Y A cel kl ka la mc k g rv) cells slots pc L (rv.toList ++ st) :=
  j_ex (fun q => j_ex (fun cel' => j_ex (fun cap => j_ex (fun f => j_and (fun h1 => by
    subst h1
    exact j_and (fun h2 => j_and (fun h3 => j_and (fun h4 => j_and (fun h5 => kk q cel' cap f h2 h3 h4 h5)))))))))
theorem j_LP {tE kl ka la k : Nat} {g : Nat → Nat} {r rv : Option Value} (kk : ∀ (q : Nat) (cel' : NMs) (mc : Int32), LI tE Y cel' kl ka la mc q k g → (∀ n, n ≠ kl → n ≠ ka → cel' n = cel n) → J p l e R s m args below meth c A nL Q (NW D A cel') cells slots pc L (r.toList ++ st)) : J p l e R s m args below meth c A nL Q (LPo tE D Y A cel kl ka la k g r rv) cells slots pc L (rv.toList ++ st) :=
  j_ex (fun q => j_ex (fun cel' => j_ex (fun mc => j_and (fun h1 => by
    subst h1
    exact j_and (fun h2 => j_and (fun h3 => kk q cel' mc h2 h3))))))
end JL3
/-! ## grow(I)[Ljava/lang/Object; -/
set_option maxRecDepth 100000 in
set_option maxHeartbeats 4000000 in
theorem k_Jx4a65c_grow_92f84E {l : Launch} (hsl : l.stackTraces = false) {D : va_G} {Y : Nat → ClassId} {A : Nat → Prop} {E : State → Prop} {tE mi : Nat} (hE : ∀ U, E U → EC A tE mi U) {cel : NMs} {kl la ka : Nat} {mc : Int32} {g : Nat → Nat} (hkk : ka ≠ kl) (hl : cel kl = some (la, LC mc tE (nI 0))) : KE l yJx4a65c_grow_92f84 cJx4a65c_grow_92f84 4 (some (.array (.object "java/lang/Object"))) D Y A E 3 120 1 160 [.ref (la), .int ((nI 0 + 1))] (NW D A cel)  (GR D Y A cel kl ka la mc 0 g) := by
  refine KE_of RJx4a65c [(0, .ref (la)), (1, .int ((nI 0 + 1)))] rfl (by decide) hsl (Nat.le_of_ble_eq_true rfl) rfl (lok_of rfl rfl) ?_
  intro p e s m args below meth c C0
  refine j_aload_n C0 dJx4a65c_grow_92f84_0 rfl ?_
  refine n_get C0 in_Jx4a65c (ci := 2) rfl kl hl 1 (by decide) wf_Jx4a65c_9 rfl dJx4a65c_grow_92f84_1 ?_
  refine j_tlen C0 hE dJx4a65c_grow_92f84_4 ?_
  refine j_istore_n C0 (L' := [(0, .ref (la)), (1, .int ((nI 0 + 1))), (2, .int ((0 : Int32)))]) dJx4a65c_grow_92f84_5 (by decide) rfl ?_
  refine j_iload_n C0 dJx4a65c_grow_92f84_6 rfl ?_
  refine j_if_gt C0 20 dJx4a65c_grow_92f84_7 (by decide) (fun z => absurd z (by decide)) (fun _ => ?_)
  refine j_aload_n C0 dJx4a65c_grow_92f84_10 rfl ?_
  refine n_get C0 in_Jx4a65c (ci := 2) rfl kl hl 1 (by decide) wf_Jx4a65c_9 rfl dJx4a65c_grow_92f84_11 ?_
  refine j_getsE C0 hE wf_Jx4a65c_39 dJx4a65c_grow_92f84_14 ?_
  refine j_acmp_eq C0 45 dJx4a65c_grow_92f84_17 (by decide) (fun _ => ?_) (fun z => absurd rfl z)
  refine j_aload_n C0 dJx4a65c_grow_92f84_45 rfl ?_
  refine j_bipush C0 (v := 10) dJx4a65c_grow_92f84_46 (by decide) ?_
  refine j_iload_n C0 dJx4a65c_grow_92f84_48 rfl ?_
  refine j_mmax C0 wm_Jx4a65c_79 w_max_st w_math w_max_co (Nat.le_of_ble_eq_true rfl) (Nat.le_of_ble_eq_true rfl) (Nat.le_of_ble_eq_true rfl) (Nat.le_of_ble_eq_true rfl) dJx4a65c_grow_92f84_49 ?_
  refine j_top (10 : Int32) (by decide +kernel) ?_
  refine n_anew C0 ka hE wc_Jx4a65c_7 (by decide) (show (10 : Int32).toNatClampNeg = 10 by decide +kernel) (by decide) (Nat.le_of_ble_eq_true rfl) (Nat.le_of_ble_eq_true rfl) dJx4a65c_grow_92f84_52 (fun q => ?_)
  refine j_nm (fun cel2 e2 f2 => ?_)
  refine j_dup_x1 C0 dJx4a65c_grow_92f84_55 rfl rfl ?_
  refine n_put C0 in_Jx4a65c tyJx4a65c tyJx4a65c_ok nmJx4a65c (ci := 2) rfl kl ((f2 kl (Ne.symm hkk)).trans hl) 1 (by decide) wf_Jx4a65c_9 rfl (tyJx4a65c_ok 1 (by decide)) rfl rfl (show 1 < 3 from by decide) dJx4a65c_grow_92f84_56 ?_
  refine j_nm (fun cel3 e3 f3 => ?_)
  replace e3 : cel3 kl = some ((la), .inr (2, [.int (mc), .ref (q), .int (nI 0)])) := e3
  refine j_widen (k := 1) (n := 160) (Nat.le_refl _) (by omega) ?_
  exact j_eret (Ω' := NW D A cel3) (j_aret C0 rfl (Or.inr ⟨_, rfl⟩) dJx4a65c_grow_92f84_59 (fun H h => h)) (fun H h => ⟨q, _, 10, _, rfl, e3, ⟨((f3 ka hkk).trans e2), Nat.zero_le _, by decide, by decide, fun j hj => absurd hj (Nat.not_lt_zero _)⟩, by decide, fun n h1 h2 => (f3 n h1).trans (f2 n h2), h⟩)
/-! ## grow(I)[Ljava/lang/Object; -/
set_option maxRecDepth 100000 in
set_option maxHeartbeats 4000000 in
theorem k_Jx4a65c_grow_92f84F {l : Launch} (hsl : l.stackTraces = false) {D : va_G} {Y : Nat → ClassId} {A : Nat → Prop} {E : State → Prop} {tE mi : Nat} (hE : ∀ U, E U → EC A tE mi U) {cel : NMs} {kl la ka k : Nat} {mc : Int32} {aa kb : Nat} {f : Nat → Option Nat} {g : Nat → Nat} (hkk : ka ≠ kl) (hl : cel kl = some (la, LC mc aa (nI k))) (ha : cel ka = some (aa, qr Y k f)) (hk1 : 0 < k) (hk2 : k ≤ 100) (hf : ∀ j, j < k → f j = some (g j)) (hO : ∀ j, j < k → OBN cel kl ka (g j)) (hkb : cel kb = none) (hb1 : ka ≠ kb) (hb2 : kl ≠ kb) : KE l yJx4a65c_grow_92f84 cJx4a65c_grow_92f84 4 (some (.array (.object "java/lang/Object"))) D Y A E 3 120 1 160 [.ref (la), .int ((nI k + 1))] (NW D A cel)  (GR D Y A cel kl ka la mc k g) := by
  refine KE_of RJx4a65c [(0, .ref (la)), (1, .int ((nI k + 1)))] rfl (by decide) hsl (Nat.le_of_ble_eq_true rfl) rfl (lok_of rfl rfl) ?_
  intro p e s m args below meth c C0
  refine j_aload_n C0 dJx4a65c_grow_92f84_0 rfl ?_
  refine n_get C0 in_Jx4a65c (ci := 2) rfl kl hl 1 (by decide) wf_Jx4a65c_9 rfl dJx4a65c_grow_92f84_1 ?_
  refine n_alen C0 ka 2 ha rfl rfl dJx4a65c_grow_92f84_4 ?_
  refine j_istore_n C0 (L' := [(0, .ref (la)), (1, .int ((nI k + 1))), (2, .int (nI k))]) dJx4a65c_grow_92f84_5 (by decide) rfl ?_
  refine j_iload_n C0 dJx4a65c_grow_92f84_6 rfl ?_
  refine j_if_gt C0 20 dJx4a65c_grow_92f84_7 (by decide) (fun _ => ?_) (fun z => absurd (nI_gt0 hk1 (by omega)) z)
  refine j_iload_n C0 dJx4a65c_grow_92f84_20 rfl ?_
  refine j_iload_n C0 dJx4a65c_grow_92f84_21 rfl ?_
  refine j_iload_n C0 dJx4a65c_grow_92f84_22 rfl ?_
  refine j_isub C0 dJx4a65c_grow_92f84_23 ?_
  refine j_iload_n C0 dJx4a65c_grow_92f84_24 rfl ?_
  refine j_iconst C0 (v := 1) dJx4a65c_grow_92f84_25 (by decide) ?_
  refine j_ishr C0 dJx4a65c_grow_92f84_26 ?_
  refine j_callSv C0 (k_J8_newLength_cabcc hsl (by rw [gN_eq k (by omega) hk1]; exact fun z => Int32.lt_irrefl (Int32.lt_of_lt_of_le (nI_gt0 (Nat.lt_trans hk1 (gN_lt k)) (by have := gN_le hk2; omega)) z)) (by rw [gN_eq k (by omega) hk1]; exact nI_nlt (a := 2147483639) (by have := gN_le hk2; omega) (by decide))) ms_J8_newLength_cabcc wm_Jx4a65c_73 rfl rfl ⟨Nat.le_of_ble_eq_true rfl, Nat.le_of_ble_eq_true rfl⟩ (Nat.le_of_ble_eq_true rfl) ⟨Nat.le_of_ble_eq_true rfl, Nat.le_of_ble_eq_true rfl⟩ dJx4a65c_grow_92f84_27 ?_
  refine j_top (nI (gN k)) (gN_eq k (by omega) hk1) ?_
  refine j_istore_n C0 (L' := [(0, .ref (la)), (1, .int ((nI k + 1))), (2, .int (nI k)), (3, .int ((nI (gN k))))]) dJx4a65c_grow_92f84_30 (by decide) rfl ?_
  refine j_aload_n C0 dJx4a65c_grow_92f84_31 rfl ?_
  refine j_aload_n C0 dJx4a65c_grow_92f84_32 rfl ?_
  refine n_get C0 in_Jx4a65c (ci := 2) rfl kl hl 1 (by decide) wf_Jx4a65c_9 rfl dJx4a65c_grow_92f84_33 ?_
  refine j_iload_n C0 dJx4a65c_grow_92f84_36 rfl ?_
  refine j_callSE C0 (k_J7_copyOf_1904c hsl hE ha hb1 (Nat.le_of_lt (gN_lt k)) (gN_le hk2) (fun i hi y hy => by
    rw [hf i hi] at hy
    cases hy
    obtain ⟨nm, ci, fs, r, h1, h2, h3, h4⟩ := hO i hi
    exact ⟨ka, nm, ci, fs, r, h2, (fun z => by rw [z, hkb] at h3; cases h3), h3, h4⟩)) ms_J7_copyOf_1904c wm_Jx4a65c_66 rfl rfl ⟨Nat.le_of_ble_eq_true rfl, Nat.le_of_ble_eq_true rfl⟩ (Nat.le_of_ble_eq_true rfl) ⟨Nat.le_of_ble_eq_true rfl, Nat.le_of_ble_eq_true rfl⟩ dJx4a65c_grow_92f84_37 (fun rv => ?_)
  refine j_CPO (fun q cel1 f1 g1 g2 g3 => ?_)
  refine j_dup_x1 C0 dJx4a65c_grow_92f84_40 rfl rfl ?_
  refine n_put C0 in_Jx4a65c tyJx4a65c tyJx4a65c_ok nmJx4a65c (ci := 2) rfl kl ((g3 kl hb2).trans hl) 1 (by decide) wf_Jx4a65c_9 rfl (tyJx4a65c_ok 1 (by decide)) rfl rfl (show 1 < 3 from by decide) dJx4a65c_grow_92f84_41 ?_
  refine j_nm (fun cel6 e6 f6 => ?_)
  replace e6 : cel6 kl = some ((la), .inr (2, [.int (mc), .ref (q), .int (nI k)])) := e6
  refine j_world (NW.mv hb1 ((f6 kb (Ne.symm hb2)).trans g1)) ?_
  exact j_eret (Ω' := NW D A (va_up (va_up cel6 ka (some (q, qr Y (gN k) f1))) kb none)) (j_aret C0 rfl (Or.inr ⟨_, rfl⟩) dJx4a65c_grow_92f84_44 (fun H h => h)) (fun H h => ⟨q, _, gN k, f1, rfl, (up_ne _ _ hb2).trans ((up_ne _ _ (Ne.symm hkk)).trans e6), ⟨(up_ne _ _ hb1).trans (up_same _ _ _), Nat.le_of_lt (gN_lt k), Nat.lt_of_le_of_lt (Nat.zero_le _) (gN_lt k), gN_le hk2, fun j hj => (g2 j hj).trans (hf j hj)⟩, gN_lt k, fun n h1 h2 => by
    by_cases e : n = kb
    · rw [e, up_same, hkb]
    · rw [up_ne _ _ e, up_ne _ _ h2]
      exact (f6 n h1).trans (g3 n e), h⟩)
/-! ## grow()[Ljava/lang/Object; -/
set_option maxRecDepth 100000 in
set_option maxHeartbeats 4000000 in
theorem k_Jx4a65c_grow_d5877E {l : Launch} (hsl : l.stackTraces = false) {D : va_G} {Y : Nat → ClassId} {A : Nat → Prop} {E : State → Prop} {tE mi : Nat} (hE : ∀ U, E U → EC A tE mi U) {cel : NMs} {kl la ka : Nat} {mc : Int32} {g : Nat → Nat} (hkk : ka ≠ kl) (hl : cel kl = some (la, LC mc tE (nI 0))) : KE l yJx4a65c_grow_d5877 cJx4a65c_grow_d5877 1 (some (.array (.object "java/lang/Object"))) D Y A E 4 160 1 160 [.ref (la)] (NW D A cel)  (GR D Y A cel kl ka la mc 0 g) := by
  refine KE_of RJx4a65c [(0, .ref (la))] rfl (by decide) hsl (Nat.le_of_ble_eq_true rfl) rfl (lok_of rfl rfl) ?_
  intro p e s m args below meth c C0
  refine j_aload_n C0 dJx4a65c_grow_d5877_0 rfl ?_
  refine j_aload_n C0 dJx4a65c_grow_d5877_1 rfl ?_
  refine n_get C0 in_Jx4a65c (ci := 2) rfl kl hl 2 (by decide) wf_Jx4a65c_48 rfl dJx4a65c_grow_d5877_2 ?_
  refine j_iconst C0 (v := 1) dJx4a65c_grow_d5877_5 (by decide) ?_
  refine j_iadd C0 dJx4a65c_grow_d5877_6 ?_
  refine j_callVE C0 (k_Jx4a65c_grow_92f84E hsl hE (g := g) hkk hl) mv_Jx4a65c_grow_92f84 wm_Jx4a65c_69 (n_recv C0 rfl kl hl) rfl rfl ⟨Nat.le_of_ble_eq_true rfl, Nat.le_of_ble_eq_true rfl⟩ (Nat.le_of_ble_eq_true rfl) ⟨Nat.le_of_ble_eq_true rfl, Nat.le_of_ble_eq_true rfl⟩ dJx4a65c_grow_d5877_7 (fun rv => ?_)
  refine j_GR (fun q cel1 cap f1 g1 g2 g3 g4 => ?_)
  exact j_eret (Ω' := NW D A cel1) (j_aret C0 rfl (Or.inr ⟨_, rfl⟩) dJx4a65c_grow_d5877_10 (fun H h => h)) (fun H h => ⟨q, _, cap, f1, rfl, g1, g2, g3, g4, h⟩)
/-! ## grow()[Ljava/lang/Object; -/
set_option maxRecDepth 100000 in
set_option maxHeartbeats 4000000 in
theorem k_Jx4a65c_grow_d5877F {l : Launch} (hsl : l.stackTraces = false) {D : va_G} {Y : Nat → ClassId} {A : Nat → Prop} {E : State → Prop} {tE mi : Nat} (hE : ∀ U, E U → EC A tE mi U) {cel : NMs} {kl la ka k : Nat} {mc : Int32} {aa kb : Nat} {f : Nat → Option Nat} {g : Nat → Nat} (hkk : ka ≠ kl) (hl : cel kl = some (la, LC mc aa (nI k))) (ha : cel ka = some (aa, qr Y k f)) (hk1 : 0 < k) (hk2 : k ≤ 100) (hf : ∀ j, j < k → f j = some (g j)) (hO : ∀ j, j < k → OBN cel kl ka (g j)) (hkb : cel kb = none) (hb1 : ka ≠ kb) (hb2 : kl ≠ kb) : KE l yJx4a65c_grow_d5877 cJx4a65c_grow_d5877 1 (some (.array (.object "java/lang/Object"))) D Y A E 4 160 1 160 [.ref (la)] (NW D A cel)  (GR D Y A cel kl ka la mc k g) := by
  refine KE_of RJx4a65c [(0, .ref (la))] rfl (by decide) hsl (Nat.le_of_ble_eq_true rfl) rfl (lok_of rfl rfl) ?_
  intro p e s m args below meth c C0
  refine j_aload_n C0 dJx4a65c_grow_d5877_0 rfl ?_
  refine j_aload_n C0 dJx4a65c_grow_d5877_1 rfl ?_
  refine n_get C0 in_Jx4a65c (ci := 2) rfl kl hl 2 (by decide) wf_Jx4a65c_48 rfl dJx4a65c_grow_d5877_2 ?_
  refine j_iconst C0 (v := 1) dJx4a65c_grow_d5877_5 (by decide) ?_
  refine j_iadd C0 dJx4a65c_grow_d5877_6 ?_
  refine j_callVE C0 (k_Jx4a65c_grow_92f84F hsl hE hkk hl ha hk1 hk2 hf hO hkb hb1 hb2) mv_Jx4a65c_grow_92f84 wm_Jx4a65c_69 (n_recv C0 rfl kl hl) rfl rfl ⟨Nat.le_of_ble_eq_true rfl, Nat.le_of_ble_eq_true rfl⟩ (Nat.le_of_ble_eq_true rfl) ⟨Nat.le_of_ble_eq_true rfl, Nat.le_of_ble_eq_true rfl⟩ dJx4a65c_grow_d5877_7 (fun rv => ?_)
  refine j_GR (fun q cel1 cap f1 g1 g2 g3 g4 => ?_)
  exact j_eret (Ω' := NW D A cel1) (j_aret C0 rfl (Or.inr ⟨_, rfl⟩) dJx4a65c_grow_d5877_10 (fun H h => h)) (fun H h => ⟨q, _, cap, f1, rfl, g1, g2, g3, g4, h⟩)
/-! ## add(Ljava/lang/Object;[Ljava/lang/Object;I)V -/
set_option maxRecDepth 100000 in
set_option maxHeartbeats 4000000 in
theorem k_Jx4a65c_add_72be8R {l : Launch} (hsl : l.stackTraces = false) {D : va_G} {Y : Nat → ClassId} {A : Nat → Prop} {E : State → Prop} {tE mi : Nat} (hE : ∀ U, E U → EC A tE mi U) {cel : NMs} {kl la ka k aa kb : Nat} {mc : Int32} {g : Nat → Nat} (hkk : ka ≠ kl) (hl : cel kl = some (la, LC mc aa (nI k))) {cap : Nat} {f : Nat → Option Nat} (hr : LR Y cel ka aa k g cap f) (hc : k < cap) (hO : ∀ j, j < k → OBN cel kl ka (g j)) {v : Nat} (hv : OBN cel kl ka v) (hkb : cel kb = none) (hb1 : ka ≠ kb) (hb2 : kl ≠ kb) : KE l yJx4a65c_add_72be8 cJx4a65c_add_72be8 4 none D Y A E 5 190 1 160 [.ref (la), .ref (v), .ref (aa), .int (nI k)] (NW D A cel)  (LPo tE D Y A cel kl ka la (k + 1) (va_up g k v) none) := by
  refine KE_of RJx4a65c [(0, .ref (la)), (1, .ref (v)), (2, .ref (aa)), (3, .int (nI k))] rfl (by decide) hsl (Nat.le_of_ble_eq_true rfl) rfl (lok_of rfl rfl) ?_
  intro p e s m args below meth c C0
  refine j_iload_n C0 dJx4a65c_add_72be8_0 rfl ?_
  refine j_aload_n C0 dJx4a65c_add_72be8_1 rfl ?_
  refine n_alen C0 ka 2 hr.1 rfl rfl dJx4a65c_add_72be8_2 ?_
  refine j_icmp_ne C0 11 dJx4a65c_add_72be8_3 (by decide) (fun _ => ?_) (fun z => absurd z (fun z => absurd ((nI_eq (by have := hr.2.2.2.1; omega) (by have := hr.2.2.2.1; omega)).mp z) (Nat.ne_of_lt hc)))
  refine j_aload_n C0 dJx4a65c_add_72be8_11 rfl ?_
  refine j_iload_n C0 dJx4a65c_add_72be8_12 rfl ?_
  refine j_aload_n C0 dJx4a65c_add_72be8_13 rfl ?_
  refine n_aast C0 ka hr.1 (hv.ob (hE s C0.2.2.2.2.2.2.2.1.2.2.1)) (vp_in_nI hc (by have := hr.2.2.2.1; omega)) dJx4a65c_add_72be8_14 ?_
  refine j_nm (fun cel2 e2 f2 => ?_)
  replace e2 : cel2 ka = some ((aa), qr Y cap (va_up f (nI k).toNatClampNeg (some v))) := e2
  refine j_aload_n C0 dJx4a65c_add_72be8_15 rfl ?_
  refine j_iload_n C0 dJx4a65c_add_72be8_16 rfl ?_
  refine j_iconst C0 (v := 1) dJx4a65c_add_72be8_17 (by decide) ?_
  refine j_iadd C0 dJx4a65c_add_72be8_18 ?_
  refine n_put C0 in_Jx4a65c tyJx4a65c tyJx4a65c_ok nmJx4a65c (ci := 2) rfl kl ((f2 kl (Ne.symm hkk)).trans hl) 2 (by decide) wf_Jx4a65c_48 rfl (tyJx4a65c_ok 2 (by decide)) rfl rfl (show 2 < 3 from by decide) dJx4a65c_add_72be8_19 ?_
  refine j_nm (fun cel3 e3 f3 => ?_)
  replace e3 : cel3 kl = some ((la), .inr (2, [.int (mc), .ref (aa), .int ((nI k + (1 : Int32)))])) := e3
  have ea := ((f3 ka hkk).trans e2)
  rw [nI_clamp (show k < 2 ^ 31 by have := hr.2.2.2.1; omega)] at ea
  refine j_widen (k := 1) (n := 160) (by omega) (by omega) ?_
  exact j_eret (Ω' := NW D A cel3) (j_vret C0 rfl dJx4a65c_add_72be8_22 (fun H h => h)) (fun H h => ⟨aa, _, _, rfl, ⟨by rw [← nI_1]; exact e3, Or.inr ⟨cap, _, ea, hc, hr.2.2.1, hr.2.2.2.1, addG hr.2.2.2.2⟩⟩, fun n h1 h2 => ((f3 n h1).trans (f2 n h2)), h⟩)
/-! ## add(Ljava/lang/Object;[Ljava/lang/Object;I)V -/
set_option maxRecDepth 100000 in
set_option maxHeartbeats 4000000 in
theorem k_Jx4a65c_add_72be8E {l : Launch} (hsl : l.stackTraces = false) {D : va_G} {Y : Nat → ClassId} {A : Nat → Prop} {E : State → Prop} {tE mi : Nat} (hE : ∀ U, E U → EC A tE mi U) {cel : NMs} {kl la ka kb : Nat} {mc : Int32} {g : Nat → Nat} (hkk : ka ≠ kl) (hl : cel kl = some (la, LC mc tE (nI 0))) (hO : ∀ j, j < 0 → OBN cel kl ka (g j)) {v : Nat} (hv : OBN cel kl ka v) (hkb : cel kb = none) (hb1 : ka ≠ kb) (hb2 : kl ≠ kb) : KE l yJx4a65c_add_72be8 cJx4a65c_add_72be8 4 none D Y A E 5 190 1 160 [.ref (la), .ref (v), .ref (tE), .int (nI 0)] (NW D A cel)  (LPo tE D Y A cel kl ka la (0 + 1) (va_up g 0 v) none) := by
  refine KE_of RJx4a65c [(0, .ref (la)), (1, .ref (v)), (2, .ref (tE)), (3, .int (nI 0))] rfl (by decide) hsl (Nat.le_of_ble_eq_true rfl) rfl (lok_of rfl rfl) ?_
  intro p e s m args below meth c C0
  refine j_iload_n C0 dJx4a65c_add_72be8_0 rfl ?_
  refine j_aload_n C0 dJx4a65c_add_72be8_1 rfl ?_
  refine j_tlen C0 hE dJx4a65c_add_72be8_2 ?_
  refine j_icmp_ne C0 11 dJx4a65c_add_72be8_3 (by decide) (fun z => absurd nI_0 z) (fun _ => ?_)
  refine j_aload_n C0 dJx4a65c_add_72be8_6 rfl ?_
  refine j_callVE C0 (k_Jx4a65c_grow_d5877E hsl hE (g := g) hkk hl) mv_Jx4a65c_grow_d5877 wm_Jx4a65c_129 (n_recv C0 rfl kl hl) rfl rfl ⟨Nat.le_of_ble_eq_true rfl, Nat.le_of_ble_eq_true rfl⟩ (Nat.le_of_ble_eq_true rfl) ⟨Nat.le_of_ble_eq_true rfl, Nat.le_of_ble_eq_true rfl⟩ dJx4a65c_add_72be8_7 (fun rv => ?_)
  refine j_GR (fun q celg cap fg g1 g2 g3 g4 => ?_)
  refine j_astore_n C0 (L' := [(0, .ref (la)), (1, .ref (v)), (2, .ref (q)), (3, .int (nI 0))]) dJx4a65c_add_72be8_10 (by decide) rfl ?_
  refine j_aload_n C0 dJx4a65c_add_72be8_11 rfl ?_
  refine j_iload_n C0 dJx4a65c_add_72be8_12 rfl ?_
  refine j_aload_n C0 dJx4a65c_add_72be8_13 rfl ?_
  refine n_aast C0 ka g2.1 ((OBN.of hv (fun n h1 h2 => (g4 n h1 h2))).ob (hE s C0.2.2.2.2.2.2.2.1.2.2.1)) (vp_in_nI g3 (by have := g2.2.2.2.1; omega)) dJx4a65c_add_72be8_14 ?_
  refine j_nm (fun cel2 e2 f2 => ?_)
  replace e2 : cel2 ka = some ((q), qr Y cap (va_up fg (nI 0).toNatClampNeg (some v))) := e2
  refine j_aload_n C0 dJx4a65c_add_72be8_15 rfl ?_
  refine j_iload_n C0 dJx4a65c_add_72be8_16 rfl ?_
  refine j_iconst C0 (v := 1) dJx4a65c_add_72be8_17 (by decide) ?_
  refine j_iadd C0 dJx4a65c_add_72be8_18 ?_
  refine n_put C0 in_Jx4a65c tyJx4a65c tyJx4a65c_ok nmJx4a65c (ci := 2) rfl kl ((f2 kl (Ne.symm hkk)).trans g1) 2 (by decide) wf_Jx4a65c_48 rfl (tyJx4a65c_ok 2 (by decide)) rfl rfl (show 2 < 3 from by decide) dJx4a65c_add_72be8_19 ?_
  refine j_nm (fun cel3 e3 f3 => ?_)
  replace e3 : cel3 kl = some ((la), .inr (2, [.int (mc), .ref (q), .int ((nI 0 + (1 : Int32)))])) := e3
  have ea := ((f3 ka hkk).trans e2)
  rw [nI_clamp (show 0 < 2 ^ 31 by have := g2.2.2.2.1; omega)] at ea
  refine j_widen (k := 1) (n := 160) (by omega) (by omega) ?_
  exact j_eret (Ω' := NW D A cel3) (j_vret C0 rfl dJx4a65c_add_72be8_22 (fun H h => h)) (fun H h => ⟨q, _, _, rfl, ⟨by rw [← nI_1]; exact e3, Or.inr ⟨cap, _, ea, g3, g2.2.2.1, g2.2.2.2.1, addG g2.2.2.2.2⟩⟩, fun n h1 h2 => ((f3 n h1).trans ((f2 n h2).trans (g4 n h1 h2))), h⟩)
/-! ## add(Ljava/lang/Object;[Ljava/lang/Object;I)V -/
set_option maxRecDepth 100000 in
set_option maxHeartbeats 4000000 in
theorem k_Jx4a65c_add_72be8F {l : Launch} (hsl : l.stackTraces = false) {D : va_G} {Y : Nat → ClassId} {A : Nat → Prop} {E : State → Prop} {tE mi : Nat} (hE : ∀ U, E U → EC A tE mi U) {cel : NMs} {kl la ka k aa kb : Nat} {mc : Int32} {g : Nat → Nat} (hkk : ka ≠ kl) (hl : cel kl = some (la, LC mc aa (nI k))) {f : Nat → Option Nat} (hr : LR Y cel ka aa k g k f) (hk2 : k ≤ 100) (hO : ∀ j, j < k → OBN cel kl ka (g j)) {v : Nat} (hv : OBN cel kl ka v) (hkb : cel kb = none) (hb1 : ka ≠ kb) (hb2 : kl ≠ kb) : KE l yJx4a65c_add_72be8 cJx4a65c_add_72be8 4 none D Y A E 5 190 1 160 [.ref (la), .ref (v), .ref (aa), .int (nI k)] (NW D A cel)  (LPo tE D Y A cel kl ka la (k + 1) (va_up g k v) none) := by
  refine KE_of RJx4a65c [(0, .ref (la)), (1, .ref (v)), (2, .ref (aa)), (3, .int (nI k))] rfl (by decide) hsl (Nat.le_of_ble_eq_true rfl) rfl (lok_of rfl rfl) ?_
  intro p e s m args below meth c C0
  refine j_iload_n C0 dJx4a65c_add_72be8_0 rfl ?_
  refine j_aload_n C0 dJx4a65c_add_72be8_1 rfl ?_
  refine n_alen C0 ka 2 hr.1 rfl rfl dJx4a65c_add_72be8_2 ?_
  refine j_icmp_ne C0 11 dJx4a65c_add_72be8_3 (by decide) (fun z => absurd rfl z) (fun _ => ?_)
  refine j_aload_n C0 dJx4a65c_add_72be8_6 rfl ?_
  refine j_callVE C0 (k_Jx4a65c_grow_d5877F hsl hE hkk hl hr.1 (by have := hr.2.2.1; omega) hk2 hr.2.2.2.2 (fun j hj => (hO j hj)) hkb hb1 hb2) mv_Jx4a65c_grow_d5877 wm_Jx4a65c_129 (n_recv C0 rfl kl hl) rfl rfl ⟨Nat.le_of_ble_eq_true rfl, Nat.le_of_ble_eq_true rfl⟩ (Nat.le_of_ble_eq_true rfl) ⟨Nat.le_of_ble_eq_true rfl, Nat.le_of_ble_eq_true rfl⟩ dJx4a65c_add_72be8_7 (fun rv => ?_)
  refine j_GR (fun q celg cap fg g1 g2 g3 g4 => ?_)
  refine j_astore_n C0 (L' := [(0, .ref (la)), (1, .ref (v)), (2, .ref (q)), (3, .int (nI k))]) dJx4a65c_add_72be8_10 (by decide) rfl ?_
  refine j_aload_n C0 dJx4a65c_add_72be8_11 rfl ?_
  refine j_iload_n C0 dJx4a65c_add_72be8_12 rfl ?_
  refine j_aload_n C0 dJx4a65c_add_72be8_13 rfl ?_
  refine n_aast C0 ka g2.1 ((OBN.of hv (fun n h1 h2 => (g4 n h1 h2))).ob (hE s C0.2.2.2.2.2.2.2.1.2.2.1)) (vp_in_nI g3 (by have := g2.2.2.2.1; omega)) dJx4a65c_add_72be8_14 ?_
  refine j_nm (fun cel2 e2 f2 => ?_)
  replace e2 : cel2 ka = some ((q), qr Y cap (va_up fg (nI k).toNatClampNeg (some v))) := e2
  refine j_aload_n C0 dJx4a65c_add_72be8_15 rfl ?_
  refine j_iload_n C0 dJx4a65c_add_72be8_16 rfl ?_
  refine j_iconst C0 (v := 1) dJx4a65c_add_72be8_17 (by decide) ?_
  refine j_iadd C0 dJx4a65c_add_72be8_18 ?_
  refine n_put C0 in_Jx4a65c tyJx4a65c tyJx4a65c_ok nmJx4a65c (ci := 2) rfl kl ((f2 kl (Ne.symm hkk)).trans g1) 2 (by decide) wf_Jx4a65c_48 rfl (tyJx4a65c_ok 2 (by decide)) rfl rfl (show 2 < 3 from by decide) dJx4a65c_add_72be8_19 ?_
  refine j_nm (fun cel3 e3 f3 => ?_)
  replace e3 : cel3 kl = some ((la), .inr (2, [.int (mc), .ref (q), .int ((nI k + (1 : Int32)))])) := e3
  have ea := ((f3 ka hkk).trans e2)
  rw [nI_clamp (show k < 2 ^ 31 by have := g2.2.2.2.1; omega)] at ea
  refine j_widen (k := 1) (n := 160) (by omega) (by omega) ?_
  exact j_eret (Ω' := NW D A cel3) (j_vret C0 rfl dJx4a65c_add_72be8_22 (fun H h => h)) (fun H h => ⟨q, _, _, rfl, ⟨by rw [← nI_1]; exact e3, Or.inr ⟨cap, _, ea, g3, g2.2.2.1, g2.2.2.2.1, addG g2.2.2.2.2⟩⟩, fun n h1 h2 => ((f3 n h1).trans ((f2 n h2).trans (g4 n h1 h2))), h⟩)
theorem k_Jx4a65c_add3 {l : Launch} (hsl : l.stackTraces = false) {D : va_G} {Y : Nat → ClassId} {A : Nat → Prop} {E : State → Prop} {tE mi : Nat} (hE : ∀ U, E U → EC A tE mi U) {cel : NMs} {kl la ka k aa kb : Nat} {mc : Int32} {g : Nat → Nat} (hkk : ka ≠ kl) (hL : LI tE Y cel kl ka la mc aa k g) (hk2 : k ≤ 100) (hO : ∀ j, j < k → OBN cel kl ka (g j)) {v : Nat} (hv : OBN cel kl ka v) (hkb : cel kb = none) (hb1 : ka ≠ kb) (hb2 : kl ≠ kb) : KE l yJx4a65c_add_72be8 cJx4a65c_add_72be8 4 none D Y A E 5 190 1 160 [.ref la, .ref v, .ref aa, .int (nI k)] (NW D A cel) (LPo tE D Y A cel kl ka la (k + 1) (va_up g k v) none) := by
  obtain ⟨hl, ⟨rfl, rfl⟩ | ⟨cap, f, hr⟩⟩ := hL
  · exact k_Jx4a65c_add_72be8E hsl hE hkk hl hO hv hkb hb1 hb2
  · rcases Nat.lt_or_ge k cap with hc | hc
    · exact k_Jx4a65c_add_72be8R hsl hE hkk hl hr hc hO hv hkb hb1 hb2
    · have e : cap = k := Nat.le_antisymm hc hr.2.1
      subst e
      exact k_Jx4a65c_add_72be8F hsl hE hkk hl hr hk2 hO hv hkb hb1 hb2
theorem LI.mod {tE : Nat} {Y : Nat → ClassId} {cel cel' : NMs} {kl ka la aa k : Nat} {mc mc' : Int32} {g : Nat → Nat} (h : LI tE Y cel kl ka la mc aa k g) (h1 : cel' kl = some (la, LC mc' aa (nI k))) (h2 : cel' ka = cel ka) : LI tE Y cel' kl ka la mc' aa k g := ⟨h1, h.2.imp id (fun ⟨cap, f, a, b⟩ => ⟨cap, f, h2.trans a, b⟩)⟩
/-! ## add(Ljava/lang/Object;)Z -/
set_option maxRecDepth 100000 in
set_option maxHeartbeats 4000000 in
theorem k_Jx4a65c_add_9ea2d {l : Launch} (hsl : l.stackTraces = false) {D : va_G} {Y : Nat → ClassId} {A : Nat → Prop} {E : State → Prop} {tE mi : Nat} (hE : ∀ U, E U → EC A tE mi U) {cel : NMs} {kl la ka k aa kb : Nat} {mc : Int32} {g : Nat → Nat} (hkk : ka ≠ kl) (hL : LI tE Y cel kl ka la mc aa k g) (hk2 : k ≤ 100) (hO : ∀ j, j < k → OBN cel kl ka (g j)) {v : Nat} (hv : OBN cel kl ka v) (hkb : cel kb = none) (hb1 : ka ≠ kb) (hb2 : kl ≠ kb) : KE l yJx4a65c_add_9ea2d cJx4a65c_add_9ea2d 2 (some .boolean) D Y A E 6 230 1 160 [.ref (la), .ref (v)] (NW D A cel)  (LPo tE D Y A cel kl ka la (k + 1) (va_up g k v) (some (.int 1))) := by
  refine KE_of RJx4a65c [(0, .ref (la)), (1, .ref (v))] rfl (by decide) hsl (Nat.le_of_ble_eq_true rfl) rfl (lok_of rfl rfl) ?_
  intro p e s m args below meth c C0
  refine j_aload_n C0 dJx4a65c_add_9ea2d_0 rfl ?_
  refine j_dup C0 dJx4a65c_add_9ea2d_1 rfl ?_
  refine n_getR C0 in_Jx4a65c (ci := 2) rfl kl hL.1 0 (by decide) wf_Jx4a65c_63 w_same rfl dJx4a65c_add_9ea2d_2 ?_
  refine j_iconst C0 (v := 1) dJx4a65c_add_9ea2d_5 (by decide) ?_
  refine j_iadd C0 dJx4a65c_add_9ea2d_6 ?_
  refine n_putR C0 in_Jx4a65c tyJx4a65c tyJx4a65c_ok nmJx4a65c (ci := 2) rfl kl hL.1 0 (by decide) wf_Jx4a65c_63 w_same rfl (tyJx4a65c_ok 0 (by decide)) rfl rfl (show 0 < 3 from by decide) dJx4a65c_add_9ea2d_7 ?_
  refine j_nm (fun cel1 e1 f1 => ?_)
  replace e1 : cel1 kl = some ((la), .inr (2, [.int ((mc + (1 : Int32))), .ref (aa), .int (nI k)])) := e1
  refine j_aload_n C0 dJx4a65c_add_9ea2d_10 rfl ?_
  refine j_aload_n C0 dJx4a65c_add_9ea2d_11 rfl ?_
  refine j_aload_n C0 dJx4a65c_add_9ea2d_12 rfl ?_
  refine n_get C0 in_Jx4a65c (ci := 2) rfl kl e1 1 (by decide) wf_Jx4a65c_9 rfl dJx4a65c_add_9ea2d_13 ?_
  refine j_aload_n C0 dJx4a65c_add_9ea2d_16 rfl ?_
  refine n_get C0 in_Jx4a65c (ci := 2) rfl kl e1 2 (by decide) wf_Jx4a65c_48 rfl dJx4a65c_add_9ea2d_17 ?_
  refine j_callVE C0 (k_Jx4a65c_add3 hsl hE hkk (hL.mod e1 (f1 ka hkk)) hk2 (fun j hj => (OBN.of (hO j hj) (fun n h1 h2 => (f1 n h1)))) (OBN.of hv (fun n h1 h2 => (f1 n h1))) (((fun n h1 h2 => (f1 n h1)) kb (Ne.symm hb2) (Ne.symm hb1)).trans hkb) hb1 hb2) mv_Jx4a65c_add_72be8 wm_Jx4a65c_131 (n_recv C0 rfl kl e1) rfl rfl ⟨Nat.le_of_ble_eq_true rfl, Nat.le_of_ble_eq_true rfl⟩ (Nat.le_of_ble_eq_true rfl) ⟨Nat.le_of_ble_eq_true rfl, Nat.le_of_ble_eq_true rfl⟩ dJx4a65c_add_9ea2d_20 (fun rv => ?_)
  refine j_LP (fun q celx mcx g1 g2 => ?_)
  show J p l e _ s m args below meth c A 2 _ (NW D A celx) (0 + 1) (0 + 160) 23 [(0, .ref (la)), (1, .ref (v))] []
  refine j_iconst C0 (v := 1) dJx4a65c_add_9ea2d_23 (by decide) ?_
  exact j_eret (Ω' := NW D A celx) (j_zret C0 rfl rfl dJx4a65c_add_9ea2d_24 (fun H h => h)) (fun H h => ⟨q, _, _, rfl, g1, fun n h1 h2 => ((g2 n h1 h2).trans (f1 n h1)), h⟩)
/-! ## add(ILjava/lang/Object;)V -/
set_option maxRecDepth 100000 in
set_option maxHeartbeats 4000000 in
theorem k_Jx4a65c_add_7a177R {l : Launch} (hsl : l.stackTraces = false) {D : va_G} {Y : Nat → ClassId} {A : Nat → Prop} {E : State → Prop} {tE mi : Nat} (hE : ∀ U, E U → EC A tE mi U) {cel : NMs} {kl la ka k aa kb : Nat} {mc : Int32} {g : Nat → Nat} (hkk : ka ≠ kl) (hl : cel kl = some (la, LC mc aa (nI k))) {cap : Nat} {f : Nat → Option Nat} (hr : LR Y cel ka aa k g cap f) (hc : k < cap) {i : Nat} (hi : i ≤ k) (hk9 : k ≤ 160) (hO : ∀ j, j < k → OBN cel kl ka (g j)) {v : Nat} (hv : OBN cel kl ka v) (hkb : cel kb = none) (hb1 : ka ≠ kb) (hb2 : kl ≠ kb) : KE l yJx4a65c_add_7a177 cJx4a65c_add_7a177 5 none D Y A E 5 190 1 160 [.ref (la), .int (nI i), .ref (v)] (NW D A cel)  (LPo tE D Y A cel kl ka la (k + 1) (insG g i v) none) := by
  refine KE_of RJx4a65c [(0, .ref (la)), (1, .int (nI i)), (2, .ref (v))] rfl (by decide) hsl (Nat.le_of_ble_eq_true rfl) rfl (lok_of rfl rfl) ?_
  intro p e s m args below meth c C0
  refine j_aload_n C0 dJx4a65c_add_7a177_0 rfl ?_
  refine j_iload_n C0 dJx4a65c_add_7a177_1 rfl ?_
  refine j_callVn C0 (k_Jx4a65c_rangeCheckForAdd_d00df hsl hl (nI_nlt hi (by omega)) (nI_pos' (by omega))) mv_Jx4a65c_rangeCheckForAdd_d00df wm_Jx4a65c_135 (n_recv C0 rfl kl hl) rfl rfl ⟨Nat.le_of_ble_eq_true rfl, Nat.le_of_ble_eq_true rfl⟩ (Nat.le_of_ble_eq_true rfl) ⟨Nat.le_of_ble_eq_true rfl, Nat.le_of_ble_eq_true rfl⟩ dJx4a65c_add_7a177_2 ?_
  refine j_aload_n C0 dJx4a65c_add_7a177_5 rfl ?_
  refine j_dup C0 dJx4a65c_add_7a177_6 rfl ?_
  refine n_getR C0 in_Jx4a65c (ci := 2) rfl kl hl 0 (by decide) wf_Jx4a65c_63 w_same rfl dJx4a65c_add_7a177_7 ?_
  refine j_iconst C0 (v := 1) dJx4a65c_add_7a177_10 (by decide) ?_
  refine j_iadd C0 dJx4a65c_add_7a177_11 ?_
  refine n_putR C0 in_Jx4a65c tyJx4a65c tyJx4a65c_ok nmJx4a65c (ci := 2) rfl kl hl 0 (by decide) wf_Jx4a65c_63 w_same rfl (tyJx4a65c_ok 0 (by decide)) rfl rfl (show 0 < 3 from by decide) dJx4a65c_add_7a177_12 ?_
  refine j_nm (fun cel1 e1 f1 => ?_)
  replace e1 : cel1 kl = some ((la), .inr (2, [.int ((mc + (1 : Int32))), .ref (aa), .int (nI k)])) := e1
  refine j_aload_n C0 dJx4a65c_add_7a177_15 rfl ?_
  refine n_get C0 in_Jx4a65c (ci := 2) rfl kl e1 2 (by decide) wf_Jx4a65c_48 rfl dJx4a65c_add_7a177_16 ?_
  refine j_dup C0 dJx4a65c_add_7a177_19 rfl ?_
  refine j_istore_n C0 (L' := [(0, .ref (la)), (1, .int (nI i)), (2, .ref (v)), (3, .int (nI k))]) dJx4a65c_add_7a177_20 (by decide) rfl ?_
  refine j_aload_n C0 dJx4a65c_add_7a177_21 rfl ?_
  refine n_get C0 in_Jx4a65c (ci := 2) rfl kl e1 1 (by decide) wf_Jx4a65c_9 rfl dJx4a65c_add_7a177_22 ?_
  refine j_dup C0 dJx4a65c_add_7a177_25 rfl ?_
  refine j_astore C0 (L' := [(0, .ref (la)), (1, .int (nI i)), (2, .ref (v)), (3, .int (nI k)), (4, .ref (aa))]) dJx4a65c_add_7a177_26 (by decide) rfl ?_
  refine n_alen C0 ka 2 ((f1 ka hkk).trans hr.1) rfl rfl dJx4a65c_add_7a177_28 ?_
  refine j_icmp_ne C0 38 dJx4a65c_add_7a177_29 (by decide) (fun _ => ?_) (fun z => absurd z (fun z => absurd ((nI_eq (by have := hr.2.2.2.1; omega) (by have := hr.2.2.2.1; omega)).mp z) (Nat.ne_of_lt hc)))
  refine j_aload C0 dJx4a65c_add_7a177_38 rfl ?_
  refine j_iload_n C0 dJx4a65c_add_7a177_40 rfl ?_
  refine j_aload C0 dJx4a65c_add_7a177_41 rfl ?_
  refine j_iload_n C0 dJx4a65c_add_7a177_43 rfl ?_
  refine j_iconst C0 (v := 1) dJx4a65c_add_7a177_44 (by decide) ?_
  refine j_iadd C0 dJx4a65c_add_7a177_45 ?_
  refine j_iload_n C0 dJx4a65c_add_7a177_46 rfl ?_
  refine j_iload_n C0 dJx4a65c_add_7a177_47 rfl ?_
  refine j_isub C0 dJx4a65c_add_7a177_48 ?_
  have hb := hr.2.2.2.1
  have hlt := hc
  have ec : (nI i).toNatClampNeg = i := nI_clamp (by omega)
  have en : (nI k - nI i).toNatClampNeg = k - i := by rw [pk_sub hi, nI_clamp (by omega)]
  have ed : (nI i + 1).toNatClampNeg = i + 1 := by rw [nI_1, nI_clamp (by omega)]
  refine n_copyM C0 ka ka ((f1 ka hkk).trans hr.1) ((f1 ka hkk).trans hr.1) (nI_pos (by omega)) (by rw [nI_1]; exact nI_pos (by omega)) (by rw [pk_sub hi]; exact nI_pos (by omega)) (by rw [ec, en]; omega) (by rw [ed, en]; omega) (fun j hj y hy => ?_) w_ac_AL w_ac_nat w_ac_st w_sys (Nat.le_of_ble_eq_true rfl) (by rw [nfwA]; exact Nat.le_of_ble_eq_true rfl) dJx4a65c_add_7a177_49 ?_
  ·
    rw [en] at hj
    rw [ec, hr.2.2.2.2 _ (by omega)] at hy
    cases hy
    exact (OBN.of (hO _ (by omega)) (fun n h1 h2 => (f1 n h1))).ob (hE s C0.2.2.2.2.2.2.2.1.2.2.1)
  rw [ec, en, ed]
  refine j_nm (fun cel3 e3 f3 => ?_)
  replace e3 : cel3 ka = some ((aa), qr Y cap (va_cpy f f i (i + 1) (k - i))) := e3
  refine j_aload C0 dJx4a65c_add_7a177_52 rfl ?_
  refine j_iload_n C0 dJx4a65c_add_7a177_54 rfl ?_
  refine j_aload_n C0 dJx4a65c_add_7a177_55 rfl ?_
  refine n_aast C0 ka e3 ((OBN.of hv (fun n h1 h2 => ((f3 n h2).trans (f1 n h1)))).ob (hE s C0.2.2.2.2.2.2.2.1.2.2.1)) (vp_in_nI (Nat.lt_of_le_of_lt hi hc) (by have := hr.2.2.2.1; omega)) dJx4a65c_add_7a177_56 ?_
  refine j_nm (fun cel4 e4 f4 => ?_)
  replace e4 : cel4 ka = some ((aa), qr Y cap (va_up (va_cpy f f i (i + 1) (k - i)) (nI i).toNatClampNeg (some v))) := e4
  refine j_aload_n C0 dJx4a65c_add_7a177_57 rfl ?_
  refine j_iload_n C0 dJx4a65c_add_7a177_58 rfl ?_
  refine j_iconst C0 (v := 1) dJx4a65c_add_7a177_59 (by decide) ?_
  refine j_iadd C0 dJx4a65c_add_7a177_60 ?_
  refine n_put C0 in_Jx4a65c tyJx4a65c tyJx4a65c_ok nmJx4a65c (ci := 2) rfl kl ((f4 kl (Ne.symm hkk)).trans ((f3 kl (Ne.symm hkk)).trans e1)) 2 (by decide) wf_Jx4a65c_48 rfl (tyJx4a65c_ok 2 (by decide)) rfl rfl (show 2 < 3 from by decide) dJx4a65c_add_7a177_61 ?_
  refine j_nm (fun cel5 e5 f5 => ?_)
  replace e5 : cel5 kl = some ((la), .inr (2, [.int ((mc + (1 : Int32))), .ref (aa), .int ((nI k + (1 : Int32)))])) := e5
  have ea := ((f5 ka hkk).trans e4)
  rw [ec] at ea
  refine j_widen (k := 1) (n := 160) (by omega) (by omega) ?_
  exact j_eret (Ω' := NW D A cel5) (j_vret C0 rfl dJx4a65c_add_7a177_64 (fun H h => h)) (fun H h => ⟨aa, _, _, rfl, ⟨by rw [← nI_1]; exact e5, Or.inr ⟨cap, _, ea, hc, hr.2.2.1, hr.2.2.2.1, insG_of hi hr.2.2.2.2⟩⟩, fun n h1 h2 => ((f5 n h1).trans ((f4 n h2).trans ((f3 n h2).trans (f1 n h1)))), h⟩)
/-! ## add(ILjava/lang/Object;)V -/
set_option maxRecDepth 100000 in
set_option maxHeartbeats 4000000 in
theorem k_Jx4a65c_add_7a177E {l : Launch} (hsl : l.stackTraces = false) {D : va_G} {Y : Nat → ClassId} {A : Nat → Prop} {E : State → Prop} {tE mi : Nat} (hE : ∀ U, E U → EC A tE mi U) {cel : NMs} {kl la ka kb : Nat} {mc : Int32} {g : Nat → Nat} (hkk : ka ≠ kl) (hl : cel kl = some (la, LC mc tE (nI 0))) {i : Nat} (hi : i ≤ 0) (hk9 : 0 ≤ 160) (hO : ∀ j, j < 0 → OBN cel kl ka (g j)) {v : Nat} (hv : OBN cel kl ka v) (hkb : cel kb = none) (hb1 : ka ≠ kb) (hb2 : kl ≠ kb) : KE l yJx4a65c_add_7a177 cJx4a65c_add_7a177 5 none D Y A E 5 190 1 160 [.ref (la), .int (nI i), .ref (v)] (NW D A cel)  (LPo tE D Y A cel kl ka la (0 + 1) (insG g i v) none) := by
  refine KE_of RJx4a65c [(0, .ref (la)), (1, .int (nI i)), (2, .ref (v))] rfl (by decide) hsl (Nat.le_of_ble_eq_true rfl) rfl (lok_of rfl rfl) ?_
  intro p e s m args below meth c C0
  refine j_aload_n C0 dJx4a65c_add_7a177_0 rfl ?_
  refine j_iload_n C0 dJx4a65c_add_7a177_1 rfl ?_
  refine j_callVn C0 (k_Jx4a65c_rangeCheckForAdd_d00df hsl hl (nI_nlt hi (by omega)) (nI_pos' (by omega))) mv_Jx4a65c_rangeCheckForAdd_d00df wm_Jx4a65c_135 (n_recv C0 rfl kl hl) rfl rfl ⟨Nat.le_of_ble_eq_true rfl, Nat.le_of_ble_eq_true rfl⟩ (Nat.le_of_ble_eq_true rfl) ⟨Nat.le_of_ble_eq_true rfl, Nat.le_of_ble_eq_true rfl⟩ dJx4a65c_add_7a177_2 ?_
  refine j_aload_n C0 dJx4a65c_add_7a177_5 rfl ?_
  refine j_dup C0 dJx4a65c_add_7a177_6 rfl ?_
  refine n_getR C0 in_Jx4a65c (ci := 2) rfl kl hl 0 (by decide) wf_Jx4a65c_63 w_same rfl dJx4a65c_add_7a177_7 ?_
  refine j_iconst C0 (v := 1) dJx4a65c_add_7a177_10 (by decide) ?_
  refine j_iadd C0 dJx4a65c_add_7a177_11 ?_
  refine n_putR C0 in_Jx4a65c tyJx4a65c tyJx4a65c_ok nmJx4a65c (ci := 2) rfl kl hl 0 (by decide) wf_Jx4a65c_63 w_same rfl (tyJx4a65c_ok 0 (by decide)) rfl rfl (show 0 < 3 from by decide) dJx4a65c_add_7a177_12 ?_
  refine j_nm (fun cel1 e1 f1 => ?_)
  replace e1 : cel1 kl = some ((la), .inr (2, [.int ((mc + (1 : Int32))), .ref (tE), .int (nI 0)])) := e1
  refine j_aload_n C0 dJx4a65c_add_7a177_15 rfl ?_
  refine n_get C0 in_Jx4a65c (ci := 2) rfl kl e1 2 (by decide) wf_Jx4a65c_48 rfl dJx4a65c_add_7a177_16 ?_
  refine j_dup C0 dJx4a65c_add_7a177_19 rfl ?_
  refine j_istore_n C0 (L' := [(0, .ref (la)), (1, .int (nI i)), (2, .ref (v)), (3, .int (nI 0))]) dJx4a65c_add_7a177_20 (by decide) rfl ?_
  refine j_aload_n C0 dJx4a65c_add_7a177_21 rfl ?_
  refine n_get C0 in_Jx4a65c (ci := 2) rfl kl e1 1 (by decide) wf_Jx4a65c_9 rfl dJx4a65c_add_7a177_22 ?_
  refine j_dup C0 dJx4a65c_add_7a177_25 rfl ?_
  refine j_astore C0 (L' := [(0, .ref (la)), (1, .int (nI i)), (2, .ref (v)), (3, .int (nI 0)), (4, .ref (tE))]) dJx4a65c_add_7a177_26 (by decide) rfl ?_
  refine j_tlen C0 hE dJx4a65c_add_7a177_28 ?_
  refine j_icmp_ne C0 38 dJx4a65c_add_7a177_29 (by decide) (fun z => absurd nI_0 z) (fun _ => ?_)
  refine j_aload_n C0 dJx4a65c_add_7a177_32 rfl ?_
  refine j_callVE C0 (k_Jx4a65c_grow_d5877E hsl hE (g := g) hkk e1) mv_Jx4a65c_grow_d5877 wm_Jx4a65c_129 (n_recv C0 rfl kl e1) rfl rfl ⟨Nat.le_of_ble_eq_true rfl, Nat.le_of_ble_eq_true rfl⟩ (Nat.le_of_ble_eq_true rfl) ⟨Nat.le_of_ble_eq_true rfl, Nat.le_of_ble_eq_true rfl⟩ dJx4a65c_add_7a177_33 (fun rv => ?_)
  refine j_GR (fun q celg cap fg g1 g2 g3 g4 => ?_)
  refine j_astore C0 (L' := [(0, .ref (la)), (1, .int (nI i)), (2, .ref (v)), (3, .int (nI 0)), (4, .ref (q))]) dJx4a65c_add_7a177_36 (by decide) rfl ?_
  refine j_aload C0 dJx4a65c_add_7a177_38 rfl ?_
  refine j_iload_n C0 dJx4a65c_add_7a177_40 rfl ?_
  refine j_aload C0 dJx4a65c_add_7a177_41 rfl ?_
  refine j_iload_n C0 dJx4a65c_add_7a177_43 rfl ?_
  refine j_iconst C0 (v := 1) dJx4a65c_add_7a177_44 (by decide) ?_
  refine j_iadd C0 dJx4a65c_add_7a177_45 ?_
  refine j_iload_n C0 dJx4a65c_add_7a177_46 rfl ?_
  refine j_iload_n C0 dJx4a65c_add_7a177_47 rfl ?_
  refine j_isub C0 dJx4a65c_add_7a177_48 ?_
  have hb := g2.2.2.2.1
  have hlt := g3
  have ec : (nI i).toNatClampNeg = i := nI_clamp (by omega)
  have en : (nI 0 - nI i).toNatClampNeg = 0 - i := by rw [pk_sub hi, nI_clamp (by omega)]
  have ed : (nI i + 1).toNatClampNeg = i + 1 := by rw [nI_1, nI_clamp (by omega)]
  refine n_copyM C0 ka ka g2.1 g2.1 (nI_pos (by omega)) (by rw [nI_1]; exact nI_pos (by omega)) (by rw [pk_sub hi]; exact nI_pos (by omega)) (by rw [ec, en]; omega) (by rw [ed, en]; omega) (fun j hj y hy => ?_) w_ac_AL w_ac_nat w_ac_st w_sys (Nat.le_of_ble_eq_true rfl) (by rw [nfwA]; exact Nat.le_of_ble_eq_true rfl) dJx4a65c_add_7a177_49 ?_
  ·
    rw [en] at hj
    rw [ec, g2.2.2.2.2 _ (by omega)] at hy
    cases hy
    exact (OBN.of (hO _ (by omega)) (fun n h1 h2 => ((g4 n h1 h2).trans (f1 n h1)))).ob (hE s C0.2.2.2.2.2.2.2.1.2.2.1)
  rw [ec, en, ed]
  refine j_nm (fun cel3 e3 f3 => ?_)
  replace e3 : cel3 ka = some ((q), qr Y cap (va_cpy fg fg i (i + 1) (0 - i))) := e3
  refine j_aload C0 dJx4a65c_add_7a177_52 rfl ?_
  refine j_iload_n C0 dJx4a65c_add_7a177_54 rfl ?_
  refine j_aload_n C0 dJx4a65c_add_7a177_55 rfl ?_
  refine n_aast C0 ka e3 ((OBN.of hv (fun n h1 h2 => ((f3 n h2).trans ((g4 n h1 h2).trans (f1 n h1))))).ob (hE s C0.2.2.2.2.2.2.2.1.2.2.1)) (vp_in_nI (Nat.lt_of_le_of_lt hi g3) (by have := g2.2.2.2.1; omega)) dJx4a65c_add_7a177_56 ?_
  refine j_nm (fun cel4 e4 f4 => ?_)
  replace e4 : cel4 ka = some ((q), qr Y cap (va_up (va_cpy fg fg i (i + 1) (0 - i)) (nI i).toNatClampNeg (some v))) := e4
  refine j_aload_n C0 dJx4a65c_add_7a177_57 rfl ?_
  refine j_iload_n C0 dJx4a65c_add_7a177_58 rfl ?_
  refine j_iconst C0 (v := 1) dJx4a65c_add_7a177_59 (by decide) ?_
  refine j_iadd C0 dJx4a65c_add_7a177_60 ?_
  refine n_put C0 in_Jx4a65c tyJx4a65c tyJx4a65c_ok nmJx4a65c (ci := 2) rfl kl ((f4 kl (Ne.symm hkk)).trans ((f3 kl (Ne.symm hkk)).trans g1)) 2 (by decide) wf_Jx4a65c_48 rfl (tyJx4a65c_ok 2 (by decide)) rfl rfl (show 2 < 3 from by decide) dJx4a65c_add_7a177_61 ?_
  refine j_nm (fun cel5 e5 f5 => ?_)
  replace e5 : cel5 kl = some ((la), .inr (2, [.int ((mc + (1 : Int32))), .ref (q), .int ((nI 0 + (1 : Int32)))])) := e5
  have ea := ((f5 ka hkk).trans e4)
  rw [ec] at ea
  refine j_widen (k := 1) (n := 160) (by omega) (by omega) ?_
  exact j_eret (Ω' := NW D A cel5) (j_vret C0 rfl dJx4a65c_add_7a177_64 (fun H h => h)) (fun H h => ⟨q, _, _, rfl, ⟨by rw [← nI_1]; exact e5, Or.inr ⟨cap, _, ea, g3, g2.2.2.1, g2.2.2.2.1, insG_of hi g2.2.2.2.2⟩⟩, fun n h1 h2 => ((f5 n h1).trans ((f4 n h2).trans ((f3 n h2).trans ((g4 n h1 h2).trans (f1 n h1))))), h⟩)
/-! ## add(ILjava/lang/Object;)V -/
set_option maxRecDepth 100000 in
set_option maxHeartbeats 4000000 in
theorem k_Jx4a65c_add_7a177F {l : Launch} (hsl : l.stackTraces = false) {D : va_G} {Y : Nat → ClassId} {A : Nat → Prop} {E : State → Prop} {tE mi : Nat} (hE : ∀ U, E U → EC A tE mi U) {cel : NMs} {kl la ka k aa kb : Nat} {mc : Int32} {g : Nat → Nat} (hkk : ka ≠ kl) (hl : cel kl = some (la, LC mc aa (nI k))) {f : Nat → Option Nat} (hr : LR Y cel ka aa k g k f) (hk2 : k ≤ 100) {i : Nat} (hi : i ≤ k) (hk9 : k ≤ 160) (hO : ∀ j, j < k → OBN cel kl ka (g j)) {v : Nat} (hv : OBN cel kl ka v) (hkb : cel kb = none) (hb1 : ka ≠ kb) (hb2 : kl ≠ kb) : KE l yJx4a65c_add_7a177 cJx4a65c_add_7a177 5 none D Y A E 5 190 1 160 [.ref (la), .int (nI i), .ref (v)] (NW D A cel)  (LPo tE D Y A cel kl ka la (k + 1) (insG g i v) none) := by
  refine KE_of RJx4a65c [(0, .ref (la)), (1, .int (nI i)), (2, .ref (v))] rfl (by decide) hsl (Nat.le_of_ble_eq_true rfl) rfl (lok_of rfl rfl) ?_
  intro p e s m args below meth c C0
  refine j_aload_n C0 dJx4a65c_add_7a177_0 rfl ?_
  refine j_iload_n C0 dJx4a65c_add_7a177_1 rfl ?_
  refine j_callVn C0 (k_Jx4a65c_rangeCheckForAdd_d00df hsl hl (nI_nlt hi (by omega)) (nI_pos' (by omega))) mv_Jx4a65c_rangeCheckForAdd_d00df wm_Jx4a65c_135 (n_recv C0 rfl kl hl) rfl rfl ⟨Nat.le_of_ble_eq_true rfl, Nat.le_of_ble_eq_true rfl⟩ (Nat.le_of_ble_eq_true rfl) ⟨Nat.le_of_ble_eq_true rfl, Nat.le_of_ble_eq_true rfl⟩ dJx4a65c_add_7a177_2 ?_
  refine j_aload_n C0 dJx4a65c_add_7a177_5 rfl ?_
  refine j_dup C0 dJx4a65c_add_7a177_6 rfl ?_
  refine n_getR C0 in_Jx4a65c (ci := 2) rfl kl hl 0 (by decide) wf_Jx4a65c_63 w_same rfl dJx4a65c_add_7a177_7 ?_
  refine j_iconst C0 (v := 1) dJx4a65c_add_7a177_10 (by decide) ?_
  refine j_iadd C0 dJx4a65c_add_7a177_11 ?_
  refine n_putR C0 in_Jx4a65c tyJx4a65c tyJx4a65c_ok nmJx4a65c (ci := 2) rfl kl hl 0 (by decide) wf_Jx4a65c_63 w_same rfl (tyJx4a65c_ok 0 (by decide)) rfl rfl (show 0 < 3 from by decide) dJx4a65c_add_7a177_12 ?_
  refine j_nm (fun cel1 e1 f1 => ?_)
  replace e1 : cel1 kl = some ((la), .inr (2, [.int ((mc + (1 : Int32))), .ref (aa), .int (nI k)])) := e1
  refine j_aload_n C0 dJx4a65c_add_7a177_15 rfl ?_
  refine n_get C0 in_Jx4a65c (ci := 2) rfl kl e1 2 (by decide) wf_Jx4a65c_48 rfl dJx4a65c_add_7a177_16 ?_
  refine j_dup C0 dJx4a65c_add_7a177_19 rfl ?_
  refine j_istore_n C0 (L' := [(0, .ref (la)), (1, .int (nI i)), (2, .ref (v)), (3, .int (nI k))]) dJx4a65c_add_7a177_20 (by decide) rfl ?_
  refine j_aload_n C0 dJx4a65c_add_7a177_21 rfl ?_
  refine n_get C0 in_Jx4a65c (ci := 2) rfl kl e1 1 (by decide) wf_Jx4a65c_9 rfl dJx4a65c_add_7a177_22 ?_
  refine j_dup C0 dJx4a65c_add_7a177_25 rfl ?_
  refine j_astore C0 (L' := [(0, .ref (la)), (1, .int (nI i)), (2, .ref (v)), (3, .int (nI k)), (4, .ref (aa))]) dJx4a65c_add_7a177_26 (by decide) rfl ?_
  refine n_alen C0 ka 2 ((f1 ka hkk).trans hr.1) rfl rfl dJx4a65c_add_7a177_28 ?_
  refine j_icmp_ne C0 38 dJx4a65c_add_7a177_29 (by decide) (fun z => absurd rfl z) (fun _ => ?_)
  refine j_aload_n C0 dJx4a65c_add_7a177_32 rfl ?_
  refine j_callVE C0 (k_Jx4a65c_grow_d5877F hsl hE hkk e1 ((f1 ka hkk).trans hr.1) (by have := hr.2.2.1; omega) hk2 hr.2.2.2.2 (fun j hj => (OBN.of (hO j hj) (fun n h1 h2 => (f1 n h1)))) (((fun n h1 h2 => (f1 n h1)) kb (Ne.symm hb2) (Ne.symm hb1)).trans hkb) hb1 hb2) mv_Jx4a65c_grow_d5877 wm_Jx4a65c_129 (n_recv C0 rfl kl e1) rfl rfl ⟨Nat.le_of_ble_eq_true rfl, Nat.le_of_ble_eq_true rfl⟩ (Nat.le_of_ble_eq_true rfl) ⟨Nat.le_of_ble_eq_true rfl, Nat.le_of_ble_eq_true rfl⟩ dJx4a65c_add_7a177_33 (fun rv => ?_)
  refine j_GR (fun q celg cap fg g1 g2 g3 g4 => ?_)
  refine j_astore C0 (L' := [(0, .ref (la)), (1, .int (nI i)), (2, .ref (v)), (3, .int (nI k)), (4, .ref (q))]) dJx4a65c_add_7a177_36 (by decide) rfl ?_
  refine j_aload C0 dJx4a65c_add_7a177_38 rfl ?_
  refine j_iload_n C0 dJx4a65c_add_7a177_40 rfl ?_
  refine j_aload C0 dJx4a65c_add_7a177_41 rfl ?_
  refine j_iload_n C0 dJx4a65c_add_7a177_43 rfl ?_
  refine j_iconst C0 (v := 1) dJx4a65c_add_7a177_44 (by decide) ?_
  refine j_iadd C0 dJx4a65c_add_7a177_45 ?_
  refine j_iload_n C0 dJx4a65c_add_7a177_46 rfl ?_
  refine j_iload_n C0 dJx4a65c_add_7a177_47 rfl ?_
  refine j_isub C0 dJx4a65c_add_7a177_48 ?_
  have hb := g2.2.2.2.1
  have hlt := g3
  have ec : (nI i).toNatClampNeg = i := nI_clamp (by omega)
  have en : (nI k - nI i).toNatClampNeg = k - i := by rw [pk_sub hi, nI_clamp (by omega)]
  have ed : (nI i + 1).toNatClampNeg = i + 1 := by rw [nI_1, nI_clamp (by omega)]
  refine n_copyM C0 ka ka g2.1 g2.1 (nI_pos (by omega)) (by rw [nI_1]; exact nI_pos (by omega)) (by rw [pk_sub hi]; exact nI_pos (by omega)) (by rw [ec, en]; omega) (by rw [ed, en]; omega) (fun j hj y hy => ?_) w_ac_AL w_ac_nat w_ac_st w_sys (Nat.le_of_ble_eq_true rfl) (by rw [nfwA]; exact Nat.le_of_ble_eq_true rfl) dJx4a65c_add_7a177_49 ?_
  ·
    rw [en] at hj
    rw [ec, g2.2.2.2.2 _ (by omega)] at hy
    cases hy
    exact (OBN.of (hO _ (by omega)) (fun n h1 h2 => ((g4 n h1 h2).trans (f1 n h1)))).ob (hE s C0.2.2.2.2.2.2.2.1.2.2.1)
  rw [ec, en, ed]
  refine j_nm (fun cel3 e3 f3 => ?_)
  replace e3 : cel3 ka = some ((q), qr Y cap (va_cpy fg fg i (i + 1) (k - i))) := e3
  refine j_aload C0 dJx4a65c_add_7a177_52 rfl ?_
  refine j_iload_n C0 dJx4a65c_add_7a177_54 rfl ?_
  refine j_aload_n C0 dJx4a65c_add_7a177_55 rfl ?_
  refine n_aast C0 ka e3 ((OBN.of hv (fun n h1 h2 => ((f3 n h2).trans ((g4 n h1 h2).trans (f1 n h1))))).ob (hE s C0.2.2.2.2.2.2.2.1.2.2.1)) (vp_in_nI (Nat.lt_of_le_of_lt hi g3) (by have := g2.2.2.2.1; omega)) dJx4a65c_add_7a177_56 ?_
  refine j_nm (fun cel4 e4 f4 => ?_)
  replace e4 : cel4 ka = some ((q), qr Y cap (va_up (va_cpy fg fg i (i + 1) (k - i)) (nI i).toNatClampNeg (some v))) := e4
  refine j_aload_n C0 dJx4a65c_add_7a177_57 rfl ?_
  refine j_iload_n C0 dJx4a65c_add_7a177_58 rfl ?_
  refine j_iconst C0 (v := 1) dJx4a65c_add_7a177_59 (by decide) ?_
  refine j_iadd C0 dJx4a65c_add_7a177_60 ?_
  refine n_put C0 in_Jx4a65c tyJx4a65c tyJx4a65c_ok nmJx4a65c (ci := 2) rfl kl ((f4 kl (Ne.symm hkk)).trans ((f3 kl (Ne.symm hkk)).trans g1)) 2 (by decide) wf_Jx4a65c_48 rfl (tyJx4a65c_ok 2 (by decide)) rfl rfl (show 2 < 3 from by decide) dJx4a65c_add_7a177_61 ?_
  refine j_nm (fun cel5 e5 f5 => ?_)
  replace e5 : cel5 kl = some ((la), .inr (2, [.int ((mc + (1 : Int32))), .ref (q), .int ((nI k + (1 : Int32)))])) := e5
  have ea := ((f5 ka hkk).trans e4)
  rw [ec] at ea
  refine j_widen (k := 1) (n := 160) (by omega) (by omega) ?_
  exact j_eret (Ω' := NW D A cel5) (j_vret C0 rfl dJx4a65c_add_7a177_64 (fun H h => h)) (fun H h => ⟨q, _, _, rfl, ⟨by rw [← nI_1]; exact e5, Or.inr ⟨cap, _, ea, g3, g2.2.2.1, g2.2.2.2.1, insG_of hi g2.2.2.2.2⟩⟩, fun n h1 h2 => ((f5 n h1).trans ((f4 n h2).trans ((f3 n h2).trans ((g4 n h1 h2).trans (f1 n h1))))), h⟩)
theorem k_Jx4a65c_addI {l : Launch} (hsl : l.stackTraces = false) {D : va_G} {Y : Nat → ClassId} {A : Nat → Prop} {E : State → Prop} {tE mi : Nat} (hE : ∀ U, E U → EC A tE mi U) {cel : NMs} {kl la ka k aa kb : Nat} {mc : Int32} {g : Nat → Nat} (hkk : ka ≠ kl) (hL : LI tE Y cel kl ka la mc aa k g) (hk2 : k ≤ 100) {i : Nat} (hi : i ≤ k) (hO : ∀ j, j < k → OBN cel kl ka (g j)) {v : Nat} (hv : OBN cel kl ka v) (hkb : cel kb = none) (hb1 : ka ≠ kb) (hb2 : kl ≠ kb) : KE l yJx4a65c_add_7a177 cJx4a65c_add_7a177 5 none D Y A E 5 190 1 160 [.ref la, .int (nI i), .ref v] (NW D A cel) (LPo tE D Y A cel kl ka la (k + 1) (insG g i v) none) := by
  obtain ⟨hl, ⟨rfl, rfl⟩ | ⟨cap, f, hr⟩⟩ := hL
  · exact k_Jx4a65c_add_7a177E hsl hE hkk hl hi (by omega) hO hv hkb hb1 hb2
  · rcases Nat.lt_or_ge k cap with hc | hc
    · exact k_Jx4a65c_add_7a177R hsl hE hkk hl hr hc hi (by omega) hO hv hkb hb1 hb2
    · have e : cap = k := Nat.le_antisymm hc hr.2.1
      subst e
      exact k_Jx4a65c_add_7a177F hsl hE hkk hl hr hk2 hi (by omega) hO hv hkb hb1 hb2
theorem k_Jx4a65c_LIsize {l : Launch} (hsl : l.stackTraces = false) {D : va_G} {Y : Nat → ClassId} {A : Nat → Prop} {E : State → Prop} {cel : NMs} {tE kl la ka k aa : Nat} {mc : Int32} {g : Nat → Nat} (hL : LI tE Y cel kl ka la mc aa k g) : KM l yJx4a65c_size_8abf5 cJx4a65c_size_8abf5 1 (some .int) D Y A E 0 0 0 0 [.ref la] (NW D A cel) (some (.int (nI k))) (NW D A cel) := k_Jx4a65c_size_8abf5 hsl hL.1
theorem k_Jx4a65c_LIget {l : Launch} (hsl : l.stackTraces = false) {D : va_G} {Y : Nat → ClassId} {A : Nat → Prop} {E : State → Prop} {cel : NMs} {tE kl la ka k aa : Nat} {mc : Int32} {g : Nat → Nat} (hL : LI tE Y cel kl ka la mc aa k g) (hk2 : k ≤ 100) {i : Nat} (hi : i < k) : KM l yJx4a65c_get_915e3 cJx4a65c_get_915e3 2 (some (.object "java/lang/Object")) D Y A E 2 60 0 0 [.ref la, .int (nI i)] (NW D A cel) (some (.ref (g i))) (NW D A cel) := by
  obtain ⟨hl, ⟨rfl, rfl⟩ | ⟨cap, f, hr⟩⟩ := hL
  · exact absurd hi (Nat.not_lt_zero _)
  · have h9 := hr.2.1
    have h8 := hr.2.2.2.1
    exact k_Jx4a65c_get_915e3 hsl hl hr.1 (nI_pos (by omega)) (nI_lt hi (by omega)) (vp_in_nI (by omega) (by omega)) (by rw [nI_clamp (by omega)]; exact hr.2.2.2.2 i hi)
/-! ## fastRemove([Ljava/lang/Object;I)V -/
set_option maxRecDepth 100000 in
set_option maxHeartbeats 4000000 in
theorem k_Jx4a65c_fastRemove_b59b0 {l : Launch} (hsl : l.stackTraces = false) {D : va_G} {Y : Nat → ClassId} {A : Nat → Prop} {E : State → Prop} {tE mi : Nat} (hE : ∀ U, E U → EC A tE mi U) {cel : NMs} {kl la ka k aa kb : Nat} {mc : Int32} {g : Nat → Nat} (hkk : ka ≠ kl) (hl : cel kl = some (la, LC mc aa (nI k))) {cap : Nat} {f : Nat → Option Nat} (hr : LR Y cel ka aa k g cap f) {i : Nat} (hi : i < k) (hO : ∀ j, j < k → OBN cel kl ka (g j)) : KE l yJx4a65c_fastRemove_b59b0 cJx4a65c_fastRemove_b59b0 4 none D Y A E 1 60 0 0 [.ref (la), .ref (aa), .int (nI i)] (NW D A cel)  (LPo tE D Y A cel kl ka la (k - 1) (delG g i) none) := by
  refine KE_of RJx4a65c [(0, .ref (la)), (1, .ref (aa)), (2, .int (nI i))] rfl (by decide) hsl (Nat.le_of_ble_eq_true rfl) rfl (lok_of rfl rfl) ?_
  intro p e s m args below meth c C0
  have hcap := hr.2.1
  have h160 := hr.2.2.2.1
  have e1k : nI k - 1 = nI (k - 1) := by rw [show (1 : Int32) = nI 1 from rfl, pk_sub (by omega)]
  have e1c : (nI k - 1).toNatClampNeg = k - 1 := by rw [e1k, nI_clamp (by omega)]
  have ec : (nI i).toNatClampNeg = i := nI_clamp (by omega)
  have ed : (nI i + 1).toNatClampNeg = i + 1 := by rw [nI_1, nI_clamp (by omega)]
  have en2 : nI k - 1 - nI i = nI (k - 1 - i) := by rw [e1k, pk_sub (by omega)]
  have en : (nI k - 1 - nI i).toNatClampNeg = k - 1 - i := by rw [en2, nI_clamp (by omega)]
  refine j_aload_n C0 dJx4a65c_fastRemove_b59b0_0 rfl ?_
  refine j_dup C0 dJx4a65c_fastRemove_b59b0_1 rfl ?_
  refine n_getR C0 in_Jx4a65c (ci := 2) rfl kl hl 0 (by decide) wf_Jx4a65c_63 w_same rfl dJx4a65c_fastRemove_b59b0_2 ?_
  refine j_iconst C0 (v := 1) dJx4a65c_fastRemove_b59b0_5 (by decide) ?_
  refine j_iadd C0 dJx4a65c_fastRemove_b59b0_6 ?_
  refine n_putR C0 in_Jx4a65c tyJx4a65c tyJx4a65c_ok nmJx4a65c (ci := 2) rfl kl hl 0 (by decide) wf_Jx4a65c_63 w_same rfl (tyJx4a65c_ok 0 (by decide)) rfl rfl (show 0 < 3 from by decide) dJx4a65c_fastRemove_b59b0_7 ?_
  refine j_nm (fun cel1 e1 f1 => ?_)
  replace e1 : cel1 kl = some ((la), .inr (2, [.int ((mc + (1 : Int32))), .ref (aa), .int (nI k)])) := e1
  refine j_aload_n C0 dJx4a65c_fastRemove_b59b0_10 rfl ?_
  refine n_get C0 in_Jx4a65c (ci := 2) rfl kl e1 2 (by decide) wf_Jx4a65c_48 rfl dJx4a65c_fastRemove_b59b0_11 ?_
  refine j_iconst C0 (v := 1) dJx4a65c_fastRemove_b59b0_14 (by decide) ?_
  refine j_isub C0 dJx4a65c_fastRemove_b59b0_15 ?_
  refine j_dup C0 dJx4a65c_fastRemove_b59b0_16 rfl ?_
  refine j_istore_n C0 (L' := [(0, .ref (la)), (1, .ref (aa)), (2, .int (nI i)), (3, .int ((nI k - (1 : Int32))))]) dJx4a65c_fastRemove_b59b0_17 (by decide) rfl ?_
  refine j_iload_n C0 dJx4a65c_fastRemove_b59b0_18 rfl ?_
  refine j_icmp_le C0 34 dJx4a65c_fastRemove_b59b0_19 (by decide) (fun (q2 : (nI k - (1 : Int32)) ≤ nI i) => ?_) (fun (q2 : ¬ ((nI k - (1 : Int32)) ≤ nI i)) => ?_)
  ·
    refine j_aload_n C0 dJx4a65c_fastRemove_b59b0_34 rfl ?_
    refine j_aload_n C0 dJx4a65c_fastRemove_b59b0_35 rfl ?_
    refine j_iload_n C0 dJx4a65c_fastRemove_b59b0_36 rfl ?_
    refine j_dup_x1 C0 dJx4a65c_fastRemove_b59b0_37 rfl rfl ?_
    refine n_put C0 in_Jx4a65c tyJx4a65c tyJx4a65c_ok nmJx4a65c (ci := 2) rfl kl e1 2 (by decide) wf_Jx4a65c_48 rfl (tyJx4a65c_ok 2 (by decide)) rfl rfl (show 2 < 3 from by decide) dJx4a65c_fastRemove_b59b0_38 ?_
    refine j_nm (fun cel3 e3 f3 => ?_)
    replace e3 : cel3 kl = some ((la), .inr (2, [.int ((mc + (1 : Int32))), .ref (aa), .int ((nI k - (1 : Int32)))])) := e3
    refine j_null C0 dJx4a65c_fastRemove_b59b0_41 ?_
    refine n_aastN C0 ka ((f3 ka hkk).trans ((f1 ka hkk).trans hr.1)) (by rw [e1k]; exact vp_in_nI (by omega) (by omega)) dJx4a65c_fastRemove_b59b0_42 ?_
    refine j_nm (fun cel4 e4 f4 => ?_)
    replace e4 : cel4 ka = some ((aa), qr Y cap (va_up f (nI k - 1).toNatClampNeg none)) := e4
    have ea := e4
    rw [e1c] at ea
    have hi2 : i + 1 = k := by
      rcases Nat.lt_or_ge (i + 1) k with z | z
      · exact absurd q2 (by rw [e1k]; exact nI_ge (by omega) (by omega))
      · omega
    exact j_eret (Ω' := NW D A cel4) (j_vret C0 rfl dJx4a65c_fastRemove_b59b0_43 (fun H h => h)) (fun H h => ⟨aa, _, _, rfl, ⟨by rw [← e1k]; exact ((f4 kl (Ne.symm hkk)).trans e3), Or.inr ⟨cap, _, ea, by have := hr.2.1; omega, hr.2.2.1, hr.2.2.2.1, delG_last hi2 hr.2.2.2.2⟩⟩, fun n h1 h2 => ((f4 n h2).trans ((f3 n h1).trans (f1 n h1))), h⟩)
  ·
    refine j_aload_n C0 dJx4a65c_fastRemove_b59b0_22 rfl ?_
    refine j_iload_n C0 dJx4a65c_fastRemove_b59b0_23 rfl ?_
    refine j_iconst C0 (v := 1) dJx4a65c_fastRemove_b59b0_24 (by decide) ?_
    refine j_iadd C0 dJx4a65c_fastRemove_b59b0_25 ?_
    refine j_aload_n C0 dJx4a65c_fastRemove_b59b0_26 rfl ?_
    refine j_iload_n C0 dJx4a65c_fastRemove_b59b0_27 rfl ?_
    refine j_iload_n C0 dJx4a65c_fastRemove_b59b0_28 rfl ?_
    refine j_iload_n C0 dJx4a65c_fastRemove_b59b0_29 rfl ?_
    refine j_isub C0 dJx4a65c_fastRemove_b59b0_30 ?_
    have hi2 : i + 1 < k := by
      rcases Nat.lt_or_ge (i + 1) k with z | z
      · exact z
      · exact absurd (by rw [e1k]; exact nI_le (by omega) (by omega)) q2
    refine n_copyM C0 ka ka ((f1 ka hkk).trans hr.1) ((f1 ka hkk).trans hr.1) (by rw [nI_1]; exact nI_pos (by omega)) (nI_pos (by omega)) (by rw [en2]; exact nI_pos (by omega)) (by rw [ed, en]; omega) (by rw [ec, en]; omega) (fun j hj y hy => ?_) w_ac_AL w_ac_nat w_ac_st w_sys (Nat.le_of_ble_eq_true rfl) (by rw [nfwA]; exact Nat.le_of_ble_eq_true rfl) dJx4a65c_fastRemove_b59b0_31 ?_
    ·
      rw [en] at hj
      rw [ed, hr.2.2.2.2 _ (by omega)] at hy
      cases hy
      exact (OBN.of (hO _ (by omega)) (fun n h1 h2 => (f1 n h1))).ob (hE s C0.2.2.2.2.2.2.2.1.2.2.1)
    rw [ec, en, ed]
    refine j_nm (fun cel5 e5 f5 => ?_)
    replace e5 : cel5 ka = some (aa, qr Y cap (va_cpy f f (i + 1) i (k - 1 - i))) := e5
    refine j_aload_n C0 dJx4a65c_fastRemove_b59b0_34 rfl ?_
    refine j_aload_n C0 dJx4a65c_fastRemove_b59b0_35 rfl ?_
    refine j_iload_n C0 dJx4a65c_fastRemove_b59b0_36 rfl ?_
    refine j_dup_x1 C0 dJx4a65c_fastRemove_b59b0_37 rfl rfl ?_
    refine n_put C0 in_Jx4a65c tyJx4a65c tyJx4a65c_ok nmJx4a65c (ci := 2) rfl kl ((f5 kl (Ne.symm hkk)).trans e1) 2 (by decide) wf_Jx4a65c_48 rfl (tyJx4a65c_ok 2 (by decide)) rfl rfl (show 2 < 3 from by decide) dJx4a65c_fastRemove_b59b0_38 ?_
    refine j_nm (fun cel6 e6 f6 => ?_)
    replace e6 : cel6 kl = some ((la), .inr (2, [.int ((mc + (1 : Int32))), .ref (aa), .int ((nI k - (1 : Int32)))])) := e6
    refine j_null C0 dJx4a65c_fastRemove_b59b0_41 ?_
    refine n_aastN C0 ka ((f6 ka hkk).trans e5) (by rw [e1k]; exact vp_in_nI (by omega) (by omega)) dJx4a65c_fastRemove_b59b0_42 ?_
    refine j_nm (fun cel7 e7 f7 => ?_)
    replace e7 : cel7 ka = some ((aa), qr Y cap (va_up (va_cpy f f (i + 1) i (k - 1 - i)) (nI k - 1).toNatClampNeg none)) := e7
    have ea := e7
    rw [e1c] at ea
    exact j_eret (Ω' := NW D A cel7) (j_vret C0 rfl dJx4a65c_fastRemove_b59b0_43 (fun H h => h)) (fun H h => ⟨aa, _, _, rfl, ⟨by rw [← e1k]; exact ((f7 kl (Ne.symm hkk)).trans e6), Or.inr ⟨cap, _, ea, by have := hr.2.1; omega, hr.2.2.1, hr.2.2.2.1, delG_of hi2 hr.2.2.2.2⟩⟩, fun n h1 h2 => ((f7 n h2).trans ((f6 n h1).trans ((f5 n h2).trans (f1 n h1)))), h⟩)
/-! ## remove(I)Ljava/lang/Object; -/
set_option maxRecDepth 100000 in
set_option maxHeartbeats 4000000 in
theorem k_Jx4a65c_remove_915e3 {l : Launch} (hsl : l.stackTraces = false) {D : va_G} {Y : Nat → ClassId} {A : Nat → Prop} {E : State → Prop} {tE mi : Nat} (hE : ∀ U, E U → EC A tE mi U) {cel : NMs} {kl la ka k aa kb : Nat} {mc : Int32} {g : Nat → Nat} (hkk : ka ≠ kl) (hl : cel kl = some (la, LC mc aa (nI k))) {cap : Nat} {f : Nat → Option Nat} (hr : LR Y cel ka aa k g cap f) {i : Nat} (hi : i < k) (hO : ∀ j, j < k → OBN cel kl ka (g j)) : KE l yJx4a65c_remove_915e3 cJx4a65c_remove_915e3 4 (some (.object "java/lang/Object")) D Y A E 2 110 0 0 [.ref (la), .int (nI i)] (NW D A cel)  (LPo tE D Y A cel kl ka la (k - 1) (delG g i) (some (.ref (g i)))) := by
  refine KE_of RJx4a65c [(0, .ref (la)), (1, .int (nI i))] rfl (by decide) hsl (Nat.le_of_ble_eq_true rfl) rfl (lok_of rfl rfl) ?_
  intro p e s m args below meth c C0
  have hcap := hr.2.1
  have h160 := hr.2.2.2.1
  refine j_iload_n C0 dJx4a65c_remove_915e3_0 rfl ?_
  refine j_aload_n C0 dJx4a65c_remove_915e3_1 rfl ?_
  refine n_get C0 in_Jx4a65c (ci := 2) rfl kl hl 2 (by decide) wf_Jx4a65c_48 rfl dJx4a65c_remove_915e3_2 ?_
  refine j_callSv C0 (k_J15_checkIndex_7cf53 hsl (nI_pos (by omega)) (nI_lt hi (by omega))) ms_J15_checkIndex_7cf53 wm_Jx4a65c_118 rfl rfl ⟨Nat.le_of_ble_eq_true rfl, Nat.le_of_ble_eq_true rfl⟩ (Nat.le_of_ble_eq_true rfl) ⟨Nat.le_of_ble_eq_true rfl, Nat.le_of_ble_eq_true rfl⟩ dJx4a65c_remove_915e3_5 ?_
  refine j_pop C0 dJx4a65c_remove_915e3_8 rfl ?_
  refine j_aload_n C0 dJx4a65c_remove_915e3_9 rfl ?_
  refine n_get C0 in_Jx4a65c (ci := 2) rfl kl hl 1 (by decide) wf_Jx4a65c_9 rfl dJx4a65c_remove_915e3_10 ?_
  refine j_astore_n C0 (L' := [(0, .ref (la)), (1, .int (nI i)), (2, .ref (aa))]) dJx4a65c_remove_915e3_13 (by decide) rfl ?_
  refine j_aload_n C0 dJx4a65c_remove_915e3_14 rfl ?_
  refine j_iload_n C0 dJx4a65c_remove_915e3_15 rfl ?_
  refine n_aald C0 ka hr.1 (vp_in_nI (by omega) (by omega)) (by rw [nI_clamp (by omega)]; exact hr.2.2.2.2 i hi) dJx4a65c_remove_915e3_16 ?_
  refine j_astore_n C0 (L' := [(0, .ref (la)), (1, .int (nI i)), (2, .ref (aa)), (3, .ref ((g i)))]) dJx4a65c_remove_915e3_17 (by decide) rfl ?_
  refine j_aload_n C0 dJx4a65c_remove_915e3_18 rfl ?_
  refine j_aload_n C0 dJx4a65c_remove_915e3_19 rfl ?_
  refine j_iload_n C0 dJx4a65c_remove_915e3_20 rfl ?_
  refine j_callVE C0 (k_Jx4a65c_fastRemove_b59b0 hsl hE (kb := 0) hkk hl hr hi hO) mv_Jx4a65c_fastRemove_b59b0 wm_Jx4a65c_144 (n_recv C0 rfl kl hl) rfl rfl ⟨Nat.le_of_ble_eq_true rfl, Nat.le_of_ble_eq_true rfl⟩ (Nat.le_of_ble_eq_true rfl) ⟨Nat.le_of_ble_eq_true rfl, Nat.le_of_ble_eq_true rfl⟩ dJx4a65c_remove_915e3_21 (fun rv => ?_)
  refine j_LP (fun q celx mcx g1 g2 => ?_)
  show J p l e _ s m args below meth c A 4 _ (NW D A celx) (0 + 0) (0 + 0) 24 [(0, .ref (la)), (1, .int (nI i)), (2, .ref (aa)), (3, .ref ((g i)))] []
  refine j_aload_n C0 dJx4a65c_remove_915e3_24 rfl ?_
  exact j_eret (Ω' := NW D A celx) (j_aret C0 rfl (Or.inl ⟨_, rfl⟩) dJx4a65c_remove_915e3_25 (fun H h => h)) (fun H h => ⟨q, _, _, rfl, g1, fun n h1 h2 => (g2 n h1 h2), h⟩)
theorem k_Jx4a65c_LIremove {l : Launch} (hsl : l.stackTraces = false) {D : va_G} {Y : Nat → ClassId} {A : Nat → Prop} {E : State → Prop} {tE mi : Nat} (hE : ∀ U, E U → EC A tE mi U) {cel : NMs} {kl la ka k aa : Nat} {mc : Int32} {g : Nat → Nat} (hkk : ka ≠ kl) (hL : LI tE Y cel kl ka la mc aa k g) {i : Nat} (hi : i < k) (hO : ∀ j, j < k → OBN cel kl ka (g j)) : KE l yJx4a65c_remove_915e3 cJx4a65c_remove_915e3 4 (some (.object "java/lang/Object")) D Y A E 2 110 0 0 [.ref la, .int (nI i)] (NW D A cel) (LPo tE D Y A cel kl ka la (k - 1) (delG g i) (some (.ref (g i)))) := by
  obtain ⟨hl, ⟨rfl, rfl⟩ | ⟨cap, f, hr⟩⟩ := hL
  · exact absurd hi (Nat.not_lt_zero _)
  · exact k_Jx4a65c_remove_915e3 hsl hE (kb := 0) hkk hl hr hi hO
