section
/-- the world at the law: the class's, the reference's, the row of longs -/
def LW (D : va_G) (Y : Nat → ClassId) (z tE o : Nat) (c6 c7 : Nat → Nat) (F : Nat → Int32) (G : Nat → Nat → Int32) (N : Nat → Nat) (Q : Nat → Nat → Nat) (f : Nat → Int32) (g : Nat → Nat → Int32) (w : Int64) : Heap → Prop := fun H => CA D Y (fun q => (z ≤ q ∧ q ∉ rL c7) ∧ q ≠ o) tE c6 F G N Q H ∧ OR D Y (fun q => z ≤ q) c7 f g H ∧ OT D Y o w H
variable {l : Launch} {y : MethodName} {bytes : ByteArray} {mL : Nat} {rt : Option FieldType} {D : va_G} {Y : Nat → ClassId} {z tE mi o fr lo mc ms k : Nat} {c6 c7 : Nat → Nat} {F F' : Nat → Int32} {G G' : Nat → Nat → Int32} {N N' : Nat → Nat} {Q Q' : Nat → Nat → Nat} {f f' : Nat → Int32} {g g' : Nat → Nat → Int32} {w : Int64} {av : List Value} {rv : Option Value}
theorem lw_kw {hh : List (Nat × Nat × Nat × Nat)} {P : Int64 → Prop} (h : KMW l y bytes hh mL rt D Y (fun q => z ≤ q ∧ q ∉ rL c7) (EL (fun q => z ≤ q ∧ q ∉ rL c7) tE mi) fr lo mc ms av (fun H => CA D Y (fun q => (z ≤ q ∧ q ∉ rL c7) ∧ q ≠ o) tE c6 F G N Q H ∧ OT D Y o w H) rv (fun H => CA D Y (fun q => (z ≤ q ∧ q ∉ rL c7) ∧ q ≠ o) tE c6 F' G' N' Q' H ∧ ∃ w', P w' ∧ OT D Y o w' H)) :
    KMW l y bytes hh mL rt D Y (fun q => z ≤ q) (EL (fun q => z ≤ q) tE mi) fr lo mc ms av (LW D Y z tE o c6 c7 F G N Q f g w) rv (fun H => ∃ w', P w' ∧ LW D Y z tE o c6 c7 F' G' N' Q' f g w' H) :=
  h.sub (fun q h => h.1) (fun U h => h.narrow (fun q z => z.1)) (EL.closed _ tE mi) (fun H h => ⟨⟨h.1, h.2.2⟩, fun q h1 h2 => ⟨h2, fun hr => by have := h.2.1.lt q hr; omega⟩⟩) (fun H H' h h' h1 h2 => by
    obtain ⟨a1, w', a2, a3⟩ := h'
    exact ⟨w', a2, a1, h.2.1.keep (fun q hq => h2 q (h.2.1.lt q hq) (fun n => n.2 hq)), a3⟩)
theorem lw_kr {E : State → Prop} (ho : z ≤ o) (hro : o ∉ rL c7) (h : ∀ A' : Nat → Prop, KM l y bytes mL rt D Y A' (fun _ => True) fr lo mc ms av (OR D Y A' c7 f g) rv (OR D Y A' c7 f' g')) :
    KM l y bytes mL rt D Y (fun q => z ≤ q) E fr lo mc ms av (LW D Y z tE o c6 c7 F G N Q f g w) rv (LW D Y z tE o c6 c7 F G N Q f' g' w) :=
  KM.subH (fun H0 hL => ⟨fun q => q ∈ rL c7 ∨ H0.size ≤ q, fun _ => True, _, _, h _, fun q hq => by
      rcases hq with hq | hq
      · exact hL.2.1.inA q hq
      · have := hL.2.2.lt; omega, fun _ _ => trivial, fun _ _ _ _ _ => trivial, fun q h1 _ => Or.inr h1, hL.2.1.re (fun q hq => Or.inl hq), fun H' h' h1 h2 => ⟨hL.1.keep (fun q q1 q2 => h2 q q1 (fun n => by
        rcases n with n | n
        · exact q2.1.2 n
        · omega)), h'.re (fun q hq => hL.2.1.inA q hq), hL.2.2.keep (h2 o hL.2.2.lt (fun n => by
        rcases n with n | n
        · exact hro n
        · have := hL.2.2.lt; omega))⟩⟩)
theorem lw_kx {E' : State → Prop} (hE' : ∀ U, EL (fun q => z ≤ q) tE mi U → E' U) (hC : hbC (fun q => (z ≤ q ∧ q ∉ rL c7) ∧ q ≠ o) E') (hk : k = 0) (h : XM l y bytes mL rt D Y (fun q => (z ≤ q ∧ q ∉ rL c7) ∧ q ≠ o) E' fr lo mc ms av (CA D Y (fun q => (z ≤ q ∧ q ∉ rL c7) ∧ q ≠ o) tE c6 F G N Q) rv k (CA D Y (fun q => (z ≤ q ∧ q ∉ rL c7) ∧ q ≠ o) tE c6 F' G' N' Q')) :
    KM l y bytes mL rt D Y (fun q => z ≤ q) (EL (fun q => z ≤ q) tE mi) fr lo mc ms av (LW D Y z tE o c6 c7 F G N Q f g w) rv (LW D Y z tE o c6 c7 F' G' N' Q' f g w) := by
  have h2 : KM l y bytes mL rt D Y (fun q => (z ≤ q ∧ q ∉ rL c7) ∧ q ≠ o) E' fr lo mc ms av (CA D Y (fun q => (z ≤ q ∧ q ∉ rL c7) ∧ q ≠ o) tE c6 F G N Q) rv (CA D Y (fun q => (z ≤ q ∧ q ∉ rL c7) ∧ q ≠ o) tE c6 F' G' N' Q') := by
    intro p e ha hc hk9 s m args below hfr happ hP hK
    obtain ⟨n, o9, h1, h2, h3, h4⟩ := h p e ha hc hk9 s m args below hfr happ hP hK
    rcases h4 with ⟨⟨k0, k1, k2, k3⟩, hL⟩ | ⟨q, hq, E9, ce, L, ⟨k0, k1, k2, k3⟩, hT⟩
    · exact ⟨n, o9, h1, h2, h3, ⟨k1, k2, k3⟩, hL⟩
    · exact absurd hk k0
  exact h2.sub (fun q h => h.1.1) hE' hC (fun H h => ⟨h.1, fun q h1 h2 => ⟨⟨h2, fun hr => by have := h.2.1.lt q hr; omega⟩, fun e => by have := h.2.2.lt; omega⟩⟩) (fun H H' h h' h1 h2 => ⟨h', h.2.1.keep (fun q hq => h2 q (h.2.1.lt q hq) (fun n => n.1.2 hq)), h.2.2.keep (h2 o h.2.2.lt (fun n => n.2 rfl))⟩)
theorem pass_mono (F : Nat → Int32) (G : Nat → Nat → Int32) (N : Nat → Nat) (Q : Nat → Nat → Nat) (a : Int32) : N 1 ≤ (sX6_pass F G N Q a).1 := by
  rw [sX6_pass]
  split
  · split
    · refine z_nfI (f := bX6_pass_39 F G N Q a) (fun _ v => N 1 ≤ v.2.2.2.2.2.2.2.2.2.2.2.2.2.2.2.1) _ (Nat.le_refl _) (fun j _ v hv => ?_)
      obtain ⟨w0, w1, w2, w3, w4, w5, w6, w7, w8, w9, w10, w11, w12, w13, w14, w15, w16, w17, w18⟩ := v
      rw [bX6_pass_39]
      exact Nat.le_trans hv (look_mono _ _ (hu (hu N 1 w15) 2 w16) _)
    · exact Nat.le_refl _
  · exact Nat.le_refl _
theorem zI_hb (h : zI F G N Q f g) : ∀ i, i < N 0 → vp_in (G 9 i) 6 := by
  obtain ⟨t, ⟨hT, hW, hP, hK, _⟩, _⟩ := h
  exact fun i hi => (hK.2.1 i hi).2.2
theorem zI_hr (h : zI F G N Q f g) : ∀ j, j < 6 → vp_in (G 3 j) 6 := by
  obtain ⟨t, ⟨hT, hW, hP, _⟩, _⟩ := h
  exact hP.2.2.1
theorem zI_hnow (h : zI F G N Q f g) : ct (F 0) 3000 := by
  obtain ⟨t, ⟨hT, _⟩, _⟩ := h
  exact ⟨t, hT.1, hT.2.1⟩
theorem zI_h9 (h : zI F G N Q f g) : N 2 < 100 := by
  obtain ⟨t, ⟨hT, hW, hP, hK, _⟩, _, hQ, _⟩ := h
  have := zQ_le hQ
  have := hK.1
  omega
theorem zI_hmh (h : zI F G N Q f g) : ∀ j, j < N 1 → vp_in (G 16 j) 3001 := by
  obtain ⟨t, ⟨hT, hW, hP, hK, hE, hS, hZ, hM, _⟩, _⟩ := h
  intro j hj
  obtain ⟨x, hx, e⟩ := hM.2.1.1 j hj
  have := hT.1
  rw [e]; exact vp_in_nI (by omega) (by decide)
theorem zI_RI (h : zI F G N Q f g) : RI f g := by
  obtain ⟨t, _, _, _, h4⟩ := h
  exact h4
theorem zI_n1 (h : zI F G N Q f g) : N 1 ≤ 100 := by
  obtain ⟨t, ⟨hT, hW, hP, hK, hE, hS, hZ, hM, _⟩, _⟩ := h
  exact hM.1
end
section
variable {p : Program} {l : Launch} {e : Env} {R : Room} {s : State} {m : MethodId} {args : Array Value} {below : List Frame} {meth : Method} {c : Code} {Q : State → Prop} {Ω : Heap → Prop} {cells slots pc nL : Nat} {L : List (Nat × Value)} {st : List Value} {own : String} {cc : ByteArray} {ret : Option FieldType} {D : va_G} {Y : Nat → ClassId} {A : Nat → Prop} {E : State → Prop} {b Ls : Nat} {xs : Nat → Int32}
theorem j_sld (C0 : CX p l s m args meth c own cc nL ret D Y A E) (hX : va_X b Ls xs s s.heap) (hbl : b < s.heap.size) (hbA : ¬ A b) {i : Int32} {x : Int32} (hin : vp_in i Ls) (hx : xs i.toNatClampNeg = x) (d : decode cc pc = .ok (.iaload, 1)) (kk : J p l e R s m args below meth c A nL Q Ω cells slots (pc + 1) L (.int x :: st)) : J p l e R s m args below meth c A nL Q Ω cells slots pc L (.int i :: .ref b :: st) := fun H locs ls h1 h2 h3 h4 => va_sld C0.1 C0.2.1 hX hbl hbA h2 hin d (by rw [hx]; exact kk H locs ls h1 h2 h3 h4)
theorem j_slen (C0 : CX p l s m args meth c own cc nL ret D Y A E) (hX : va_X b Ls xs s s.heap) (hbl : b < s.heap.size) (hbA : ¬ A b) (d : decode cc pc = .ok (.arraylength, 1)) (kk : J p l e R s m args below meth c A nL Q Ω cells slots (pc + 1) L (.int (nI Ls) :: st)) : J p l e R s m args below meth c A nL Q Ω cells slots pc L (.ref b :: st) := fun H locs ls h1 h2 h3 h4 => va_slen C0.1 C0.2.1 hX hbl hbA h2 d (kk H locs ls h1 h2 h3 h4)
/-- a word of the script: local 4 holds i, k behind it -/
theorem j_word (C0 : CX p l s m args meth c own cc nL ret D Y A E) (hX : va_X b Ls xs s s.heap) (hbl : b < s.heap.size) (hbA : ¬ A b) {i k : Nat} {kk0 : Int} (hk : Int32.ofInt kk0 = nI k) (hi : i + k < Ls) (hLs : Ls ≤ 2560) (h0 : lk L 0 = some (.ref b)) (h4 : lk L 4 = some (.int (nI i)))
    (d0 : decode cc pc = .ok (.aload_n 0, 1)) (d1 : decode cc (pc + 1) = .ok (.iload 4, 2)) (d3 : decode cc (pc + 3) = .ok (.iconst kk0, 1)) (d4 : decode cc (pc + 4) = .ok (.iadd, 1)) (d5 : decode cc (pc + 5) = .ok (.iaload, 1))
    (kk : J p l e R s m args below meth c A nL Q Ω cells slots (pc + 6) L (.int (xs (i + k)) :: st)) : J p l e R s m args below meth c A nL Q Ω cells slots pc L st := by
  refine j_aload_n C0 d0 h0 ?_
  refine j_iload C0 d1 h4 ?_
  refine j_iconst C0 d3 hk ?_
  refine j_iadd C0 d4 ?_
  rw [nI_add]
  exact j_sld C0 hX hbl hbA (vp_in_nI hi (by omega)) (by rw [nI_clamp (by omega)]) d5 kk
theorem j_tabIn (C0 : CX p l s m args meth c own cc nL ret D Y A E) {dflt lo hi : Int} {offs : Array Int} {len : Nat} {x : Int32} {off : Int} (tgt : Nat) (d : decode cc pc = .ok (.tableswitch dflt lo hi offs, len)) (h1 : ¬ x.toInt < lo) (h2 : ¬ hi < x.toInt) (ho : offs[(x.toInt - lo).toNat]? = some off) (ht : (pc : Int) + off = (tgt : Int)) (kk : J p l e R s m args below meth c A nL Q Ω cells slots tgt L st) : J p l e R s m args below meth c A nL Q Ω cells slots pc L (.int x :: st) := fun H locs ls a1 a2 a3 a4 => lv_tableIn C0.1 C0.2.1 d h1 h2 ho ht (kk H locs ls a1 a2 a3 a4)
theorem j_tabOut (C0 : CX p l s m args meth c own cc nL ret D Y A E) {dflt lo hi : Int} {offs : Array Int} {len : Nat} {x : Int32} (tgt : Nat) (d : decode cc pc = .ok (.tableswitch dflt lo hi offs, len)) (h : x.toInt < lo ∨ hi < x.toInt) (ht : (pc : Int) + dflt = (tgt : Int)) (kk : J p l e R s m args below meth c A nL Q Ω cells slots tgt L st) : J p l e R s m args below meth c A nL Q Ω cells slots pc L (.int x :: st) := fun H locs ls a1 a2 a3 a4 => lv_tableOut C0.1 C0.2.1 d h ht (kk H locs ls a1 a2 a3 a4)
theorem j_newL0 (C0 : CX p l s m args meth c own cc nL ret D Y A E) (harr : Cond.arrayClass .long ∈ TB) (hcells : cells + 1 ≤ R.cells) (hslots : slots + 1 ≤ R.slots) (d : decode cc pc = .ok (.newarray .long, 2)) {H : Heap} {locs : List Loc} {ls : Array Slot} (kk : ∀ (H' : Heap) (cA : ClassId), H'[H.size]? = some (arrV cA 1 (fun _ => .long 0)) → H'.size = H.size + 1 → (∀ q, q < H.size → H'[q]? = H[q]?) → s.vm.findClass ("[" ++ FieldType.long.toString) = some cA → W p l e R s m args below meth c H' locs (cells + 1) (slots + 1) Q (F0 m (pc + 2) ls (.ref H.size :: st))) : W p l e R s m args below meth c H locs cells slots Q (F0 m pc ls (.int 1 :: st)) := by
  have harr2 := C0.2.2.2.2.1 _ harr
  have n0 : ¬ (1 : Int32) < 0 := by decide
  have n1 : (1 : Int32).toNatClampNeg = 1 := by decide
  have n2 : 1 * componentBytes (newarray.typeOf .long) ≤ 536870912 := Nat.le_of_ble_eq_true rfl
  exact va_newaK (atype := .long) (N := 1) (n := 1) (h := H.size) C0.1 C0.2.1 harr2 rfl d rfl n0 n1 n2 hcells hslots rfl (fun H' cA e1 z1 o1 hAr hNm => kk H' cA e1 z1 o1 hNm)
theorem OT_new {o : Nat} {H' : Heap} (h : H'[o]? = some (arrV (Y 3) 1 (fun _ => .long 0))) : OT D Y o 0 H' := by
  refine ⟨fun _ => 0, rfl, ?_⟩
  intro k q hk
  have hz : k < 1 := (List.getElem?_eq_some_iff.mp hk).1
  have h0 : k = 0 := by omega
  rw [h0] at hk
  have e : (o, (.inl (Y 3, 1, .inr (.inl (fun _ => 0))) : va_E)) = q := Option.some.inj hk
  rw [← e]
  show H'[o]? = some (vp_cell (Y 3) _)
  rw [vp_cell_l]
  exact h
theorem RA_long {cA : ClassId} (hY : va_RA s cA .long) : s.vm.findClass ("[" ++ FieldType.long.toString) = some cA := hY
theorem j_newL (C0 : CX p l s m args meth c own cc nL ret D Y A E) (harr : Cond.arrayClass .long ∈ TB) (hcells : cells + 1 ≤ R.cells) (hslots : slots + 1 ≤ R.slots) (d : decode cc pc = .ok (.newarray .long, 2)) (kk : ∀ o, J p l e R s m args below meth c A nL Q (fun H' => ∃ H, Ω H ∧ H.size = o ∧ o < H'.size ∧ (∀ q, q < o → H'[q]? = H[q]?) ∧ A o ∧ OT D Y o 0 H') (cells + 1) (slots + 1) (pc + 2) L (.ref o :: st)) : J p l e R s m args below meth c A nL Q Ω cells slots pc L (.int 1 :: st) := by
  intro H locs ls h1 h2 h3 h4
  refine j_newL0 C0 harr hcells hslots d (fun H' cA e1 z1 o1 hNm => ?_)
  have hY := RA_long (C0.2.2.2.2.2.2.2.1.2.1.2 3 (Y 3, .long) rfl).2
  have eY : cA = Y 3 := Option.some.inj (hNm.symm.trans hY)
  rw [eY] at e1
  have hA : A H.size := C0.2.2.2.2.2.2.2.1.1 _ h2.1
  have hlt : H.size < H'.size := by omega
  exact kk H.size H' locs ls ⟨H, h1, rfl, hlt, o1, hA, OT_new e1⟩ ⟨Nat.le_trans h2.1 (by omega), fun x y1 y2 => (o1 x (Nat.lt_of_lt_of_le y1 h2.1)).trans (h2.2.1 x y1 y2), h2.2.2⟩ h3 h4
end
