theorem j_castL {p : Program} {l : Launch} {e : Env} {R : Room} {s : State} {m : MethodId} {args : Array Value} {below : List Frame} {meth : Method} {c : Code} {A : Nat → Prop} {nL : Nat} {Q : State → Prop} {Ω : Heap → Prop} {cells slots pc : Nat} {L L' : List (Nat × Value)} {st : List Value} (h : L' = L) (kk : J p l e R s m args below meth c A nL Q Ω cells slots pc L' st) : J p l e R s m args below meth c A nL Q Ω cells slots pc L st := h ▸ kk
theorem k_inc (x : Int32) (j : Nat) : x + nI j + Int32.ofInt 1 = x + nI (j + 1) := by rw [Int32.add_assoc, nI_inc]
theorem k_zero (x : Int32) : x + nI 0 = x := by rw [nI_0, Int32.add_zero]
/-- a loop while c -/
def wl {α : Type} (f : α → α) (c : α → Bool) : Nat → α → α
  | 0, a => a
  | n + 1, a => if c a = true then wl f c n (f a) else a
theorem wl_end {α : Type} (f : α → α) (c : α → Bool) (μ : α → Nat) (hμ : ∀ v, c v = true → μ (f v) < μ v) : ∀ (n : Nat) (a : α), μ a ≤ n → c (wl f c n a) = false := by
  intro n
  induction n with
  | zero =>
    intro a h
    cases hc : c a with
    | false => exact hc
    | true => exact absurd (hμ a hc) (by omega)
  | succ n ih =>
    intro a h
    unfold wl
    split
    · rename_i hc
      exact ih _ (by have := hμ a hc; omega)
    · rename_i hc
      exact Bool.eq_false_iff.mpr hc
theorem hb_wl {α : Type} (P : α → Prop) (f : α → α) (c : α → Bool) (hs : ∀ v, c v = true → P (f v) → P v) : ∀ (n : Nat) (a : α), P (wl f c n a) → P a := by
  intro n
  induction n with
  | zero => intro a h; exact h
  | succ n ih =>
    intro a h
    unfold wl at h
    split at h
    · rename_i hc
      exact hs a hc (ih _ h)
    · exact h
/-! ## many(I)I -/
def bX7_many (v : Int32 × Int32) : Int32 × Int32 := (v.1 + (v.2 - v.2 / (2 : Int32) * (2 : Int32)), v.2 / (2 : Int32))
def cX7_manyC (v : Int32 × Int32) : Bool := decide (0 < v.2)
theorem many_mu (v : Int32 × Int32) (h : cX7_manyC v = true) : (bX7_many v).2.toNatClampNeg < v.2.toNatClampNeg := by
  have hp : 0 < v.2 := of_decide_eq_true h
  obtain ⟨j, h1, h2⟩ := nI_of (x := v.2) (by
    rw [Int32.lt_iff_toInt_lt] at hp ⊢
    omega)
  show (v.2 / (2 : Int32)).toNatClampNeg < _
  rw [h2] at hp ⊢
  rw [show (2 : Int32) = nI 2 from rfl, pk_div h1 (by decide) (by decide), nI_clamp (by omega), nI_clamp h1]
  have : 0 < j := by
    rcases Nat.eq_zero_or_pos j with e | e
    · subst e; exact absurd hp (by decide)
    · exact e
  omega
def vX7_many (a1 : Int32) : Int32 := (wl bX7_many cX7_manyC a1.toNatClampNeg ((0 : Int32), a1)).1
set_option maxRecDepth 100000 in
set_option maxHeartbeats 4000000 in
theorem k_X7_many {l : Launch} (hl : l.stackTraces = false) {D : va_G} {Y : Nat → ClassId} {A : Nat → Prop} {E : State → Prop} {Ω : Heap → Prop} (a1 : Int32) : KM l yX7_many cX7_many 3 (some .int) D Y A E 0 0 0 0 [.int (a1)] Ω (some (.int (vX7_many a1))) Ω := by
  refine KM_of RX7 [(0, .int (a1))] rfl (by decide) hl (Nat.le_of_ble_eq_true rfl) rfl (lok_of rfl rfl) ?_
  intro p e s m args below meth c C0
  refine j_iconst C0 (v := 0) dX7_many_0 (by decide) ?_
  refine j_istore_n C0 (L' := [(0, .int a1), (1, .int 0)]) dX7_many_1 (by decide) rfl ?_
  refine j_iload_n C0 dX7_many_2 rfl ?_
  refine j_istore_n C0 (L' := [(0, .int a1), (1, .int 0), (2, .int a1)]) dX7_many_3 (by decide) rfl ?_
  refine hb_wl (P := fun (v : Int32 × Int32) => J p l e _ s m args below meth c A 3 _ Ω 0 0 4 [(0, .int a1), (1, .int v.1), (2, .int v.2)] []) bX7_many cX7_manyC ?_ a1.toNatClampNeg ((0 : Int32), a1) ?_
  · intro v hv K
    have hp : 0 < v.2 := of_decide_eq_true hv
    refine j_iload_n C0 dX7_many_4 rfl ?_
    refine j_if_le C0 21 dX7_many_5 (by decide) (fun z => absurd z (by rw [Int32.lt_iff_toInt_lt] at hp; rw [Int32.le_iff_toInt_le]; omega)) (fun _ => ?_)
    refine j_iload_n C0 dX7_many_8 rfl ?_
    refine j_iload_n C0 dX7_many_9 rfl ?_
    refine j_iconst C0 (v := 2) dX7_many_10 (by decide) ?_
    refine j_irem C0 dX7_many_11 (by decide) ?_
    refine j_iadd C0 dX7_many_12 ?_
    refine j_istore_n C0 (L' := [(0, .int a1), (1, .int (bX7_many v).1), (2, .int v.2)]) dX7_many_13 (by decide) rfl ?_
    refine j_iload_n C0 dX7_many_14 rfl ?_
    refine j_iconst C0 (v := 2) dX7_many_15 (by decide) ?_
    refine j_idiv C0 dX7_many_16 (by decide) ?_
    refine j_istore_n C0 (L' := [(0, .int a1), (1, .int (bX7_many v).1), (2, .int (bX7_many v).2)]) dX7_many_17 (by decide) rfl ?_
    exact j_goto C0 4 dX7_many_18 (by decide) K
  · have he := wl_end bX7_many cX7_manyC (fun v => v.2.toNatClampNeg) many_mu a1.toNatClampNeg ((0 : Int32), a1) (Nat.le_refl _)
    have hz : ¬ 0 < (wl bX7_many cX7_manyC a1.toNatClampNeg ((0 : Int32), a1)).2 := of_decide_eq_false he
    show J p l e _ s m args below meth c A 3 _ Ω 0 0 4 [(0, .int a1), (1, .int (wl bX7_many cX7_manyC a1.toNatClampNeg ((0 : Int32), a1)).1), (2, .int (wl bX7_many cX7_manyC a1.toNatClampNeg ((0 : Int32), a1)).2)] []
    refine j_iload_n C0 dX7_many_4 rfl ?_
    refine j_if_le C0 21 dX7_many_5 (by decide) (fun _ => ?_) (fun z => absurd (by rw [Int32.lt_iff_toInt_lt] at hz; rw [Int32.le_iff_toInt_le]; omega) z)
    refine j_iload_n C0 dX7_many_21 rfl ?_
    exact j_iretE C0 rfl (by rw [vX7_many]) dX7_many_22 (fun H h => h)
/-! ## loses(I)V -/
def sX7_loses (F : Nat → Int32) (G : Nat → Nat → Int32) (a1 : Int32) : (Nat → Int32) × (Nat → Nat → Int32) := (F, (hu (hu (hu (hu G 13 (upd (G 13) (a1).toNatClampNeg (((G 13) (a1).toNatClampNeg) + (100 : Int32)))) 17 (upd (upd (G 17) (((G 16) ((0 : Int32)).toNatClampNeg)).toNatClampNeg ((((G 17) (((G 16) ((0 : Int32)).toNatClampNeg)).toNatClampNeg) + (50 : Int32)))) (((G 16) ((1 : Int32)).toNatClampNeg)).toNatClampNeg ((((upd (G 17) (((G 16) ((0 : Int32)).toNatClampNeg)).toNatClampNeg ((((G 17) (((G 16) ((0 : Int32)).toNatClampNeg)).toNatClampNeg) + (50 : Int32)))) (((G 16) ((1 : Int32)).toNatClampNeg)).toNatClampNeg) + (50 : Int32))))) 14 (upd (G 14) (a1).toNatClampNeg ((((G 14) (a1).toNatClampNeg) + (1 : Int32))))) 11 (upd (G 11) (a1).toNatClampNeg ((-1 : Int32)))))
set_option maxRecDepth 100000 in
set_option maxHeartbeats 4000000 in
theorem k_X7_loses {l : Launch} (hl : l.stackTraces = false) {D : va_G} {Y : Nat → ClassId} {A : Nat → Prop} {E : State → Prop} (ad : Nat → Nat) (F : Nat → Int32) (G : Nat → Nat → Int32) (a1 : Int32) (hs1 : vp_in a1 30) (hr : ∀ j, j < 6 → vp_in (G 16 j) 6) : KM l yX7_loses cX7_loses 2 none D Y A E 1 22 0 0 [.ref (ad 0), .int (a1)] (OR D Y A ad F G) none (OR D Y A ad (sX7_loses F G a1).1 (sX7_loses F G a1).2) := by
  refine KM_of RX7 [(0, .ref (ad 0)), (1, .int (a1))] rfl (by decide) hl (Nat.le_of_ble_eq_true rfl) rfl (lok_of rfl rfl) ?_
  intro p e s m args below meth c C0
  refine j_aload_n C0 dX7_loses_0 rfl ?_
  refine j_iload_n C0 dX7_loses_1 rfl ?_
  refine j_bipush C0 (v := 100) dX7_loses_2 (by decide) ?_
  refine j_callVn C0 (k_X7_pays hl ad F G (a1) ((100 : Int32)) hs1) mv_X7_pays wm_X7_125 (r_recv C0) rfl rfl ⟨Nat.le_of_ble_eq_true rfl, Nat.le_of_ble_eq_true rfl⟩ (Nat.le_of_ble_eq_true rfl) ⟨Nat.le_refl _, Nat.le_refl _⟩ dX7_loses_4 ?_
  show J p l e _ s m args below meth c A 2 _ (OV D Y A ad (F 0) (F 1) (F 5) (F 18) (F 19) (F 20) (G 2) (G 3) (G 4) (G 6) (G 7) (G 8) (G 9) (G 10) (G 11) (G 12) (upd (G 13) (a1).toNatClampNeg (((G 13) (a1).toNatClampNeg) + (100 : Int32))) (G 14) (G 15) (G 16) (G 17) (G 21) (G 22) (G 23) (G 24) (G 25)) 0 0 7 [(0, .ref (ad 0)), (1, .int (a1))] []
  refine j_aload_n C0 dX7_loses_7 rfl ?_
  refine r_gf_17 C0 dX7_loses_8 ?_
  refine j_aload_n C0 dX7_loses_11 rfl ?_
  refine r_gf_16 C0 dX7_loses_12 ?_
  refine j_iconst C0 (v := 0) dX7_loses_15 (by decide) ?_
  refine r_ld_16 C0 (v := ((G 16) ((0 : Int32)).toNatClampNeg)) (vp_lit (by decide +kernel)) dX7_loses_16 rfl ?_
  refine j_dup2 C0 dX7_loses_17 rfl rfl ?_
  refine r_ld_17 C0 (v := ((G 17) (((G 16) ((0 : Int32)).toNatClampNeg)).toNatClampNeg)) (vp_at (N := 6) (P := fun z => vp_in z 6) (g := G 16) (j := 0) hr (by decide) (by decide)) dX7_loses_18 rfl ?_
  refine j_bipush C0 (v := 50) dX7_loses_19 (by decide) ?_
  refine j_iadd C0 dX7_loses_21 ?_
  refine r_st_17 C0 (vp_at (N := 6) (P := fun z => vp_in z 6) (g := G 16) (j := 0) hr (by decide) (by decide)) dX7_loses_22 ?_
  refine j_aload_n C0 dX7_loses_23 rfl ?_
  refine r_gf_17 C0 dX7_loses_24 ?_
  refine j_aload_n C0 dX7_loses_27 rfl ?_
  refine r_gf_16 C0 dX7_loses_28 ?_
  refine j_iconst C0 (v := 1) dX7_loses_31 (by decide) ?_
  refine r_ld_16 C0 (v := ((G 16) ((1 : Int32)).toNatClampNeg)) (vp_lit (by decide +kernel)) dX7_loses_32 rfl ?_
  refine j_dup2 C0 dX7_loses_33 rfl rfl ?_
  refine r_ld_17 C0 (v := ((upd (G 17) (((G 16) ((0 : Int32)).toNatClampNeg)).toNatClampNeg ((((G 17) (((G 16) ((0 : Int32)).toNatClampNeg)).toNatClampNeg) + (50 : Int32)))) (((G 16) ((1 : Int32)).toNatClampNeg)).toNatClampNeg)) (vp_at (N := 6) (P := fun z => vp_in z 6) (g := G 16) (j := 1) hr (by decide) (by decide)) dX7_loses_34 rfl ?_
  refine j_bipush C0 (v := 50) dX7_loses_35 (by decide) ?_
  refine j_iadd C0 dX7_loses_37 ?_
  refine r_st_17 C0 (vp_at (N := 6) (P := fun z => vp_in z 6) (g := G 16) (j := 1) hr (by decide) (by decide)) dX7_loses_38 ?_
  refine j_aload_n C0 dX7_loses_39 rfl ?_
  refine r_gf_14 C0 dX7_loses_40 ?_
  refine j_iload_n C0 dX7_loses_43 rfl ?_
  refine j_dup2 C0 dX7_loses_44 rfl rfl ?_
  refine r_ld_14 C0 (v := ((G 14) (a1).toNatClampNeg)) hs1 dX7_loses_45 rfl ?_
  refine j_iconst C0 (v := 1) dX7_loses_46 (by decide) ?_
  refine j_iadd C0 dX7_loses_47 ?_
  refine r_st_14 C0 hs1 dX7_loses_48 ?_
  refine j_aload_n C0 dX7_loses_49 rfl ?_
  refine r_gf_11 C0 dX7_loses_50 ?_
  refine j_iload_n C0 dX7_loses_53 rfl ?_
  refine j_iconst C0 (v := -1) dX7_loses_54 (by decide) ?_
  refine r_st_11 C0 hs1 dX7_loses_55 ?_
  exact j_vret C0 rfl dX7_loses_56 (fun H h => by rw [sX7_loses]; exact h)
/-! ## begins(I)V -/
def bX7_begins_15 (F : Nat → Int32) (G : Nat → Nat → Int32) (a1 : Int32) (j15 : Nat) (v15 : (Nat → Int32)) : (Nat → Int32) := ((upd v15 (((vX7_firstReady F G) + nI (j15))).toNatClampNeg ((v15 ((((vX7_firstReady F G) + nI (j15)) + (1 : Int32))).toNatClampNeg))))
def sX7_begins (F : Nat → Int32) (G : Nat → Nat → Int32) (a1 : Int32) : (Nat → Int32) × (Nat → Nat → Int32) := (if ((G 10) (a1).toNatClampNeg) = 0 then ((hu (hu (hu F 20 ((F 20) + (1 : Int32))) 18 ((F 18) + ((30 : Int32) * ((G 6) (a1).toNatClampNeg)))) 19 ((F 19) + ((100 : Int32) * ((G 6) (a1).toNatClampNeg)))), (hu (hu (hu (hu (hu (hu (hu (hu (hu (hu (hu G 16 (upd (nf (bX7_begins_15 F G a1) ((G 16)) (((5 : Int32) - vX7_firstReady F G).toNatClampNeg)) ((5 : Int32)).toNatClampNeg (((G 16) ((vX7_firstReady F G)).toNatClampNeg)))) 21 (upd (G 21) ((F 20)).toNatClampNeg ((F 1)))) 22 (upd (G 22) ((F 20)).toNatClampNeg (a1))) 23 (upd (G 23) ((F 20)).toNatClampNeg (((G 16) ((vX7_firstReady F G)).toNatClampNeg)))) 24 (upd (G 24) ((F 20)).toNatClampNeg ((vX7_lowest ((vX7_tugsNow F (hu (hu (hu (hu G 16 (upd (nf (bX7_begins_15 F G a1) ((G 16)) (((5 : Int32) - vX7_firstReady F G).toNatClampNeg)) ((5 : Int32)).toNatClampNeg (((G 16) ((vX7_firstReady F G)).toNatClampNeg)))) 21 (upd (G 21) ((F 20)).toNatClampNeg ((F 1)))) 22 (upd (G 22) ((F 20)).toNatClampNeg (a1))) 23 (upd (G 23) ((F 20)).toNatClampNeg (((G 16) ((vX7_firstReady F G)).toNatClampNeg)))))) (((G 6) (a1).toNatClampNeg)))))) 25 (upd (G 25) ((F 20)).toNatClampNeg (vp_nar .boolean (0 : Int32)))) 13 (upd (G 13) (a1).toNatClampNeg (((G 13) (a1).toNatClampNeg) + (((50 : Int32) + ((30 : Int32) * ((G 6) (a1).toNatClampNeg))) + ((100 : Int32) * ((G 6) (a1).toNatClampNeg)))))) 17 (upd (G 17) (((G 16) ((vX7_firstReady F G)).toNatClampNeg)).toNatClampNeg ((((G 17) (((G 16) ((vX7_firstReady F G)).toNatClampNeg)).toNatClampNeg) + (50 : Int32))))) 10 (upd (G 10) (a1).toNatClampNeg ((1 : Int32)))) 12 (upd (G 12) (a1).toNatClampNeg ((F 1)))) 11 (upd (G 11) (a1).toNatClampNeg ((-1 : Int32))))) else ((hu (hu (hu F 20 ((F 20) + (1 : Int32))) 18 ((F 18) + ((30 : Int32) * ((G 6) (a1).toNatClampNeg)))) 19 ((F 19) + (0 : Int32))), (hu (hu (hu (hu (hu (hu (hu (hu (hu (hu (hu G 16 (upd (nf (bX7_begins_15 F G a1) ((G 16)) (((5 : Int32) - vX7_firstReady F G).toNatClampNeg)) ((5 : Int32)).toNatClampNeg (((G 16) ((vX7_firstReady F G)).toNatClampNeg)))) 21 (upd (G 21) ((F 20)).toNatClampNeg ((F 1)))) 22 (upd (G 22) ((F 20)).toNatClampNeg (a1))) 23 (upd (G 23) ((F 20)).toNatClampNeg (((G 16) ((vX7_firstReady F G)).toNatClampNeg)))) 24 (upd (G 24) ((F 20)).toNatClampNeg ((vX7_lowest ((vX7_tugsNow F (hu (hu (hu (hu G 16 (upd (nf (bX7_begins_15 F G a1) ((G 16)) (((5 : Int32) - vX7_firstReady F G).toNatClampNeg)) ((5 : Int32)).toNatClampNeg (((G 16) ((vX7_firstReady F G)).toNatClampNeg)))) 21 (upd (G 21) ((F 20)).toNatClampNeg ((F 1)))) 22 (upd (G 22) ((F 20)).toNatClampNeg (a1))) 23 (upd (G 23) ((F 20)).toNatClampNeg (((G 16) ((vX7_firstReady F G)).toNatClampNeg)))))) (((G 6) (a1).toNatClampNeg)))))) 25 (upd (G 25) ((F 20)).toNatClampNeg (vp_nar .boolean (1 : Int32)))) 13 (upd (G 13) (a1).toNatClampNeg (((G 13) (a1).toNatClampNeg) + (((50 : Int32) + ((30 : Int32) * ((G 6) (a1).toNatClampNeg))) + (0 : Int32))))) 17 (upd (G 17) (((G 16) ((vX7_firstReady F G)).toNatClampNeg)).toNatClampNeg ((((G 17) (((G 16) ((vX7_firstReady F G)).toNatClampNeg)).toNatClampNeg) + (50 : Int32))))) 10 (upd (G 10) (a1).toNatClampNeg ((3 : Int32)))) 12 (upd (G 12) (a1).toNatClampNeg ((F 1)))) 11 (upd (G 11) (a1).toNatClampNeg ((-1 : Int32))))))
set_option maxRecDepth 100000 in
set_option maxHeartbeats 4000000 in
theorem k_X7_begins {l : Launch} (hl : l.stackTraces = false) {D : va_G} {Y : Nat → ClassId} {A : Nat → Prop} {E : State → Prop} (ad : Nat → Nat) (F : Nat → Int32) (G : Nat → Nat → Int32) (a1 : Int32) (hI : RI F G) (hs1 : vp_in a1 30) (hp : vp_in (vX7_firstReady F G) 6) (hc : vp_in (F 20) 100) : KM l yX7_begins cX7_begins 5 none D Y A E 2 46 0 0 [.ref (ad 0), .int (a1)] (OR D Y A ad F G) none (OR D Y A ad (sX7_begins F G a1).1 (sX7_begins F G a1).2) := by
  refine KM_of RX7 [(0, .ref (ad 0)), (1, .int (a1))] rfl (by decide) hl (Nat.le_of_ble_eq_true rfl) rfl (lok_of rfl rfl) ?_
  intro p e s m args below meth c C0
  obtain ⟨hn, hs, hm, hb, hw, hr⟩ := id hI
  obtain ⟨pn, hpn, hpe⟩ := vp_in_of hp (by decide)
  have hk : ∀ j, vX7_firstReady F G + nI j = nI (pn + j) := fun j => by rw [hpe, nI_add]
  have hN : ((5 : Int32) - vX7_firstReady F G).toNatClampNeg = 5 - pn := by rw [hpe, show (5 : Int32) = nI 5 from rfl, pk_sub (by omega), nI_clamp (by omega)]
  have hpil : vp_in (G 16 (vX7_firstReady F G).toNatClampNeg) 6 := hr _ (vp_cl hp)
  refine j_aload_n C0 dX7_begins_0 rfl ?_
  refine j_callVv C0 (k_X7_firstReady hl ad F G  hm) mv_X7_firstReady wm_X7_129 (r_recv C0) rfl rfl ⟨Nat.le_of_ble_eq_true rfl, Nat.le_of_ble_eq_true rfl⟩ (Nat.le_of_ble_eq_true rfl) ⟨Nat.le_refl _, Nat.le_refl _⟩ dX7_begins_1 ?_
  refine j_istore_n C0 (L' := [(0, .ref (ad 0)), (1, .int (a1)), (2, .int ((vX7_firstReady F G)))]) dX7_begins_4 (by decide) rfl ?_
  refine j_aload_n C0 dX7_begins_5 rfl ?_
  refine r_gf_16 C0 dX7_begins_6 ?_
  refine j_iload_n C0 dX7_begins_9 rfl ?_
  refine r_ld_16 C0 (v := ((G 16) ((vX7_firstReady F G)).toNatClampNeg)) hp dX7_begins_10 rfl ?_
  refine j_istore_n C0 (L' := [(0, .ref (ad 0)), (1, .int (a1)), (2, .int ((vX7_firstReady F G))), (3, .int (((G 16) ((vX7_firstReady F G)).toNatClampNeg)))]) dX7_begins_11 (by decide) rfl ?_
  refine j_iload_n C0 dX7_begins_12 rfl ?_
  refine j_istore C0 (L' := [(0, .ref (ad 0)), (1, .int (a1)), (2, .int ((vX7_firstReady F G))), (3, .int (((G 16) ((vX7_firstReady F G)).toNatClampNeg))), (4, .int ((vX7_firstReady F G)))]) dX7_begins_13 (by decide) rfl ?_
  refine j_castL (L' := [(0, .ref (ad 0)), (1, .int (a1)), (2, .int ((vX7_firstReady F G))), (3, .int (((G 16) ((vX7_firstReady F G)).toNatClampNeg))), (4, .int (((vX7_firstReady F G) + nI (0))))]) (by simp only [k_zero]) ?_
  refine hb_lp (P := fun (j : Nat) (v : (Nat → Int32)) => J p l e _ s m args below meth c A 5 _ (OV D Y A ad (F 0) (F 1) (F 5) (F 18) (F 19) (F 20) (G 2) (G 3) (G 4) (G 6) (G 7) (G 8) (G 9) (G 10) (G 11) (G 12) (G 13) (G 14) (G 15) v (G 17) (G 21) (G 22) (G 23) (G 24) (G 25)) 0 0 15 [(0, .ref (ad 0)), (1, .int (a1)), (2, .int ((vX7_firstReady F G))), (3, .int (((G 16) ((vX7_firstReady F G)).toNatClampNeg))), (4, .int (((vX7_firstReady F G) + nI (j))))] []) (bX7_begins_15 F G a1) ((G 16)) (((5 : Int32) - vX7_firstReady F G).toNatClampNeg) ?_ ?_
  ·
    intro j15 hj15 K15
    generalize nf (bX7_begins_15 F G a1) ((G 16)) j15 = v15 at K15 ⊢
    show J p l e _ s m args below meth c A 5 _ (OV D Y A ad (F 0) (F 1) (F 5) (F 18) (F 19) (F 20) (G 2) (G 3) (G 4) (G 6) (G 7) (G 8) (G 9) (G 10) (G 11) (G 12) (G 13) (G 14) (G 15) v15 (G 17) (G 21) (G 22) (G 23) (G 24) (G 25)) 0 0 15 [(0, .ref (ad 0)), (1, .int (a1)), (2, .int ((vX7_firstReady F G))), (3, .int (((G 16) ((vX7_firstReady F G)).toNatClampNeg))), (4, .int (((vX7_firstReady F G) + nI (j15))))] []
    replace K15 : J p l e _ s m args below meth c A 5 _ (OV D Y A ad (F 0) (F 1) (F 5) (F 18) (F 19) (F 20) (G 2) (G 3) (G 4) (G 6) (G 7) (G 8) (G 9) (G 10) (G 11) (G 12) (G 13) (G 14) (G 15) (bX7_begins_15 F G a1 j15 v15) (G 17) (G 21) (G 22) (G 23) (G 24) (G 25)) 0 0 15 [(0, .ref (ad 0)), (1, .int (a1)), (2, .int ((vX7_firstReady F G))), (3, .int (((G 16) ((vX7_firstReady F G)).toNatClampNeg))), (4, .int (((vX7_firstReady F G) + nI (j15 + 1))))] [] := K15
    have hj15 : j15 < 5 - pn := by rw [← hN]; exact hj15
    refine j_iload C0 dX7_begins_15 rfl ?_
    refine j_iconst C0 (v := 5) dX7_begins_17 (by decide) ?_
    refine j_icmp_ge C0 43 dX7_begins_18 (by decide) (fun z => absurd z (by rw [hk]; exact nI_ge (a := pn + j15) (b := 5) (by omega) (by decide))) (fun _ => ?_)
    refine j_aload_n C0 dX7_begins_21 rfl ?_
    refine r_gf_16 C0 dX7_begins_22 ?_
    refine j_iload C0 dX7_begins_25 rfl ?_
    refine j_aload_n C0 dX7_begins_27 rfl ?_
    refine r_gf_16 C0 dX7_begins_28 ?_
    refine j_iload C0 dX7_begins_31 rfl ?_
    refine j_iconst C0 (v := 1) dX7_begins_33 (by decide) ?_
    refine j_iadd C0 dX7_begins_34 ?_
    refine r_ld_16 C0 (v := (v15 ((((vX7_firstReady F G) + nI (j15)) + (1 : Int32))).toNatClampNeg)) (by rw [hk, nI_1]; exact vp_in_nI (by omega) (by decide)) dX7_begins_35 rfl ?_
    refine r_st_16 C0 (by rw [hk]; exact vp_in_nI (by omega) (by decide)) dX7_begins_36 ?_
    refine j_iinc C0 (v := ((vX7_firstReady F G) + nI (j15 + 1))) (L' := [(0, .ref (ad 0)), (1, .int (a1)), (2, .int ((vX7_firstReady F G))), (3, .int (((G 16) ((vX7_firstReady F G)).toNatClampNeg))), (4, .int (((vX7_firstReady F G) + nI (j15 + 1))))]) dX7_begins_37 rfl (k_inc _ j15) (by decide) rfl ?_
    refine j_goto C0 15 dX7_begins_40 (by decide) ?_
    exact K15
  ·
    show J p l e _ s m args below meth c A 5 _ (OV D Y A ad (F 0) (F 1) (F 5) (F 18) (F 19) (F 20) (G 2) (G 3) (G 4) (G 6) (G 7) (G 8) (G 9) (G 10) (G 11) (G 12) (G 13) (G 14) (G 15) (nf (bX7_begins_15 F G a1) ((G 16)) (((5 : Int32) - vX7_firstReady F G).toNatClampNeg)) (G 17) (G 21) (G 22) (G 23) (G 24) (G 25)) 0 0 15 [(0, .ref (ad 0)), (1, .int (a1)), (2, .int ((vX7_firstReady F G))), (3, .int (((G 16) ((vX7_firstReady F G)).toNatClampNeg))), (4, .int (((vX7_firstReady F G) + nI ((((5 : Int32) - vX7_firstReady F G).toNatClampNeg)))))] []
    refine j_iload C0 dX7_begins_15 rfl ?_
    refine j_iconst C0 (v := 5) dX7_begins_17 (by decide) ?_
    refine j_icmp_ge C0 43 dX7_begins_18 (by decide) (fun _ => ?_) (fun z => absurd (by rw [hN, hk]; exact nI_le (a := 5) (by omega) (by omega)) z)
    refine j_aload_n C0 dX7_begins_43 rfl ?_
    refine r_gf_16 C0 dX7_begins_44 ?_
    refine j_iconst C0 (v := 5) dX7_begins_47 (by decide) ?_
    refine j_iload_n C0 dX7_begins_48 rfl ?_
    refine r_st_16 C0 (vp_lit (by decide +kernel)) dX7_begins_49 ?_
    refine j_aload_n C0 dX7_begins_50 rfl ?_
    refine r_gf_10 C0 dX7_begins_51 ?_
    refine j_iload_n C0 dX7_begins_54 rfl ?_
    refine r_ld_10 C0 (v := ((G 10) (a1).toNatClampNeg)) hs1 dX7_begins_55 rfl ?_
    refine j_if_ne C0 63 dX7_begins_56 (by decide) (fun (q3 : ¬ (((G 10) (a1).toNatClampNeg) = 0)) => ?_) (fun (q3 : ((G 10) (a1).toNatClampNeg) = 0) => ?_)
    ·
      refine j_iconst C0 (v := 0) dX7_begins_63 (by decide) ?_
      refine j_istore C0 (L' := [(0, .ref (ad 0)), (1, .int (a1)), (2, .int ((vX7_firstReady F G))), (3, .int (((G 16) ((vX7_firstReady F G)).toNatClampNeg))), (4, .int ((0 : Int32)))]) dX7_begins_64 (by decide) rfl ?_
      refine j_aload_n C0 dX7_begins_66 rfl ?_
      refine r_gf_21 C0 dX7_begins_67 ?_
      refine j_aload_n C0 dX7_begins_70 rfl ?_
      refine r_gf_20 C0 (v := (F 20)) dX7_begins_71 rfl ?_
      refine j_aload_n C0 dX7_begins_74 rfl ?_
      refine r_gf_1 C0 (v := (F 1)) dX7_begins_75 rfl ?_
      refine r_st_21 C0 hc dX7_begins_78 ?_
      refine j_aload_n C0 dX7_begins_79 rfl ?_
      refine r_gf_22 C0 dX7_begins_80 ?_
      refine j_aload_n C0 dX7_begins_83 rfl ?_
      refine r_gf_20 C0 (v := (F 20)) dX7_begins_84 rfl ?_
      refine j_iload_n C0 dX7_begins_87 rfl ?_
      refine r_st_22 C0 hc dX7_begins_88 ?_
      refine j_aload_n C0 dX7_begins_89 rfl ?_
      refine r_gf_23 C0 dX7_begins_90 ?_
      refine j_aload_n C0 dX7_begins_93 rfl ?_
      refine r_gf_20 C0 (v := (F 20)) dX7_begins_94 rfl ?_
      refine j_iload_n C0 dX7_begins_97 rfl ?_
      refine r_st_23 C0 hc dX7_begins_98 ?_
      refine j_aload_n C0 dX7_begins_99 rfl ?_
      refine r_gf_24 C0 dX7_begins_100 ?_
      refine j_aload_n C0 dX7_begins_103 rfl ?_
      refine r_gf_20 C0 (v := (F 20)) dX7_begins_104 rfl ?_
      refine j_aload_n C0 dX7_begins_107 rfl ?_
      refine j_callVv C0 (k_X7_tugsNow hl ad F (hu (hu (hu (hu G 16 (upd (nf (bX7_begins_15 F G a1) ((G 16)) (((5 : Int32) - vX7_firstReady F G).toNatClampNeg)) ((5 : Int32)).toNatClampNeg (((G 16) ((vX7_firstReady F G)).toNatClampNeg)))) 21 (upd (G 21) ((F 20)).toNatClampNeg ((F 1)))) 22 (upd (G 22) ((F 20)).toNatClampNeg (a1))) 23 (upd (G 23) ((F 20)).toNatClampNeg (((G 16) ((vX7_firstReady F G)).toNatClampNeg))))  hm) mv_X7_tugsNow wm_X7_122 (r_recv C0) rfl rfl ⟨Nat.le_of_ble_eq_true rfl, Nat.le_of_ble_eq_true rfl⟩ (Nat.le_of_ble_eq_true rfl) ⟨Nat.le_refl _, Nat.le_refl _⟩ dX7_begins_108 ?_
      refine j_aload_n C0 dX7_begins_111 rfl ?_
      refine r_gf_6 C0 dX7_begins_112 ?_
      refine j_iload_n C0 dX7_begins_115 rfl ?_
      refine r_ld_6 C0 (v := ((G 6) (a1).toNatClampNeg)) hs1 dX7_begins_116 rfl ?_
      refine j_callSv C0 (k_X7_lowest hl ((vX7_tugsNow F (hu (hu (hu (hu G 16 (upd (nf (bX7_begins_15 F G a1) ((G 16)) (((5 : Int32) - vX7_firstReady F G).toNatClampNeg)) ((5 : Int32)).toNatClampNeg (((G 16) ((vX7_firstReady F G)).toNatClampNeg)))) 21 (upd (G 21) ((F 20)).toNatClampNeg ((F 1)))) 22 (upd (G 22) ((F 20)).toNatClampNeg (a1))) 23 (upd (G 23) ((F 20)).toNatClampNeg (((G 16) ((vX7_firstReady F G)).toNatClampNeg)))))) (((G 6) (a1).toNatClampNeg)) ) ms_X7_lowest wm_X7_132 rfl rfl ⟨Nat.le_of_ble_eq_true rfl, Nat.le_of_ble_eq_true rfl⟩ (Nat.le_of_ble_eq_true rfl) ⟨Nat.le_refl _, Nat.le_refl _⟩ dX7_begins_117 ?_
      refine r_st_24 C0 hc dX7_begins_120 ?_
      refine j_aload_n C0 dX7_begins_121 rfl ?_
      refine r_gf_25 C0 dX7_begins_122 ?_
      refine j_aload_n C0 dX7_begins_125 rfl ?_
      refine r_gf_20 C0 (v := (F 20)) dX7_begins_126 rfl ?_
      refine j_iload C0 dX7_begins_129 rfl ?_
      refine j_if_ne C0 138 dX7_begins_131 (by decide) (fun z => absurd (by decide) z) (fun _ => ?_)
      refine j_iconst C0 (v := 1) dX7_begins_134 (by decide) ?_
      refine j_goto C0 139 dX7_begins_135 (by decide) ?_
      refine r_st_25 C0 hc dX7_begins_139 ?_
      refine j_aload_n C0 dX7_begins_140 rfl ?_
      refine j_dup C0 dX7_begins_141 rfl ?_
      refine r_gf_20 C0 (v := (F 20)) dX7_begins_142 rfl ?_
      refine j_iconst C0 (v := 1) dX7_begins_145 (by decide) ?_
      refine j_iadd C0 dX7_begins_146 ?_
      refine r_pf_20 C0 dX7_begins_147 ?_
      refine j_aload_n C0 dX7_begins_150 rfl ?_
      refine j_iload_n C0 dX7_begins_151 rfl ?_
      refine j_bipush C0 (v := 50) dX7_begins_152 (by decide) ?_
      refine j_bipush C0 (v := 30) dX7_begins_154 (by decide) ?_
      refine j_aload_n C0 dX7_begins_156 rfl ?_
      refine r_gf_6 C0 dX7_begins_157 ?_
      refine j_iload_n C0 dX7_begins_160 rfl ?_
      refine r_ld_6 C0 (v := ((G 6) (a1).toNatClampNeg)) hs1 dX7_begins_161 rfl ?_
      refine j_imul C0 dX7_begins_162 ?_
      refine j_iadd C0 dX7_begins_163 ?_
      refine j_iload C0 dX7_begins_164 rfl ?_
      refine j_if_eq C0 181 dX7_begins_166 (by decide) (fun _ => ?_) (fun z => absurd (by decide) z)
      refine j_iconst C0 (v := 0) dX7_begins_181 (by decide) ?_
      refine j_iadd C0 dX7_begins_182 ?_
      refine j_callVn C0 (k_X7_pays hl ad (hu F 20 ((F 20) + (1 : Int32))) (hu (hu (hu (hu (hu (hu G 16 (upd (nf (bX7_begins_15 F G a1) ((G 16)) (((5 : Int32) - vX7_firstReady F G).toNatClampNeg)) ((5 : Int32)).toNatClampNeg (((G 16) ((vX7_firstReady F G)).toNatClampNeg)))) 21 (upd (G 21) ((F 20)).toNatClampNeg ((F 1)))) 22 (upd (G 22) ((F 20)).toNatClampNeg (a1))) 23 (upd (G 23) ((F 20)).toNatClampNeg (((G 16) ((vX7_firstReady F G)).toNatClampNeg)))) 24 (upd (G 24) ((F 20)).toNatClampNeg ((vX7_lowest ((vX7_tugsNow F (hu (hu (hu (hu G 16 (upd (nf (bX7_begins_15 F G a1) ((G 16)) (((5 : Int32) - vX7_firstReady F G).toNatClampNeg)) ((5 : Int32)).toNatClampNeg (((G 16) ((vX7_firstReady F G)).toNatClampNeg)))) 21 (upd (G 21) ((F 20)).toNatClampNeg ((F 1)))) 22 (upd (G 22) ((F 20)).toNatClampNeg (a1))) 23 (upd (G 23) ((F 20)).toNatClampNeg (((G 16) ((vX7_firstReady F G)).toNatClampNeg)))))) (((G 6) (a1).toNatClampNeg)))))) 25 (upd (G 25) ((F 20)).toNatClampNeg (vp_nar .boolean (1 : Int32)))) (a1) ((((50 : Int32) + ((30 : Int32) * ((G 6) (a1).toNatClampNeg))) + (0 : Int32))) hs1) mv_X7_pays wm_X7_125 (r_recv C0) rfl rfl ⟨Nat.le_of_ble_eq_true rfl, Nat.le_of_ble_eq_true rfl⟩ (Nat.le_of_ble_eq_true rfl) ⟨Nat.le_refl _, Nat.le_refl _⟩ dX7_begins_183 ?_
      show J p l e _ s m args below meth c A 5 _ (OV D Y A ad (F 0) (F 1) (F 5) (F 18) (F 19) ((F 20) + (1 : Int32)) (G 2) (G 3) (G 4) (G 6) (G 7) (G 8) (G 9) (G 10) (G 11) (G 12) (upd (G 13) (a1).toNatClampNeg (((G 13) (a1).toNatClampNeg) + (((50 : Int32) + ((30 : Int32) * ((G 6) (a1).toNatClampNeg))) + (0 : Int32)))) (G 14) (G 15) (upd (nf (bX7_begins_15 F G a1) ((G 16)) (((5 : Int32) - vX7_firstReady F G).toNatClampNeg)) ((5 : Int32)).toNatClampNeg (((G 16) ((vX7_firstReady F G)).toNatClampNeg))) (G 17) (upd (G 21) ((F 20)).toNatClampNeg ((F 1))) (upd (G 22) ((F 20)).toNatClampNeg (a1)) (upd (G 23) ((F 20)).toNatClampNeg (((G 16) ((vX7_firstReady F G)).toNatClampNeg))) (upd (G 24) ((F 20)).toNatClampNeg ((vX7_lowest ((vX7_tugsNow F (hu (hu (hu (hu G 16 (upd (nf (bX7_begins_15 F G a1) ((G 16)) (((5 : Int32) - vX7_firstReady F G).toNatClampNeg)) ((5 : Int32)).toNatClampNeg (((G 16) ((vX7_firstReady F G)).toNatClampNeg)))) 21 (upd (G 21) ((F 20)).toNatClampNeg ((F 1)))) 22 (upd (G 22) ((F 20)).toNatClampNeg (a1))) 23 (upd (G 23) ((F 20)).toNatClampNeg (((G 16) ((vX7_firstReady F G)).toNatClampNeg)))))) (((G 6) (a1).toNatClampNeg))))) (upd (G 25) ((F 20)).toNatClampNeg (vp_nar .boolean (1 : Int32)))) 0 0 186 [(0, .ref (ad 0)), (1, .int (a1)), (2, .int ((vX7_firstReady F G))), (3, .int (((G 16) ((vX7_firstReady F G)).toNatClampNeg))), (4, .int ((0 : Int32)))] []
      refine j_aload_n C0 dX7_begins_186 rfl ?_
      refine r_gf_17 C0 dX7_begins_187 ?_
      refine j_iload_n C0 dX7_begins_190 rfl ?_
      refine j_dup2 C0 dX7_begins_191 rfl rfl ?_
      refine r_ld_17 C0 (v := ((G 17) (((G 16) ((vX7_firstReady F G)).toNatClampNeg)).toNatClampNeg)) hpil dX7_begins_192 rfl ?_
      refine j_bipush C0 (v := 50) dX7_begins_193 (by decide) ?_
      refine j_iadd C0 dX7_begins_195 ?_
      refine r_st_17 C0 hpil dX7_begins_196 ?_
      refine j_aload_n C0 dX7_begins_197 rfl ?_
      refine j_dup C0 dX7_begins_198 rfl ?_
      refine r_gf_18 C0 (v := (F 18)) dX7_begins_199 rfl ?_
      refine j_bipush C0 (v := 30) dX7_begins_202 (by decide) ?_
      refine j_aload_n C0 dX7_begins_204 rfl ?_
      refine r_gf_6 C0 dX7_begins_205 ?_
      refine j_iload_n C0 dX7_begins_208 rfl ?_
      refine r_ld_6 C0 (v := ((G 6) (a1).toNatClampNeg)) hs1 dX7_begins_209 rfl ?_
      refine j_imul C0 dX7_begins_210 ?_
      refine j_iadd C0 dX7_begins_211 ?_
      refine r_pf_18 C0 dX7_begins_212 ?_
      refine j_aload_n C0 dX7_begins_215 rfl ?_
      refine j_dup C0 dX7_begins_216 rfl ?_
      refine r_gf_19 C0 (v := (F 19)) dX7_begins_217 rfl ?_
      refine j_iload C0 dX7_begins_220 rfl ?_
      refine j_if_eq C0 237 dX7_begins_222 (by decide) (fun _ => ?_) (fun z => absurd (by decide) z)
      refine j_iconst C0 (v := 0) dX7_begins_237 (by decide) ?_
      refine j_iadd C0 dX7_begins_238 ?_
      refine r_pf_19 C0 dX7_begins_239 ?_
      refine j_aload_n C0 dX7_begins_242 rfl ?_
      refine r_gf_10 C0 dX7_begins_243 ?_
      refine j_iload_n C0 dX7_begins_246 rfl ?_
      refine j_iload C0 dX7_begins_247 rfl ?_
      refine j_if_eq C0 256 dX7_begins_249 (by decide) (fun _ => ?_) (fun z => absurd (by decide) z)
      refine j_iconst C0 (v := 3) dX7_begins_256 (by decide) ?_
      refine r_st_10 C0 hs1 dX7_begins_257 ?_
      refine j_aload_n C0 dX7_begins_258 rfl ?_
      refine r_gf_12 C0 dX7_begins_259 ?_
      refine j_iload_n C0 dX7_begins_262 rfl ?_
      refine j_aload_n C0 dX7_begins_263 rfl ?_
      refine r_gf_1 C0 (v := (F 1)) dX7_begins_264 rfl ?_
      refine r_st_12 C0 hs1 dX7_begins_267 ?_
      refine j_aload_n C0 dX7_begins_268 rfl ?_
      refine r_gf_11 C0 dX7_begins_269 ?_
      refine j_iload_n C0 dX7_begins_272 rfl ?_
      refine j_iconst C0 (v := -1) dX7_begins_273 (by decide) ?_
      refine r_st_11 C0 hs1 dX7_begins_274 ?_
      exact j_vret C0 rfl dX7_begins_275 (fun H h => by rw [sX7_begins, if_neg q3]; exact h)
    ·
      refine j_iconst C0 (v := 1) dX7_begins_59 (by decide) ?_
      refine j_goto C0 64 dX7_begins_60 (by decide) ?_
      refine j_istore C0 (L' := [(0, .ref (ad 0)), (1, .int (a1)), (2, .int ((vX7_firstReady F G))), (3, .int (((G 16) ((vX7_firstReady F G)).toNatClampNeg))), (4, .int ((1 : Int32)))]) dX7_begins_64 (by decide) rfl ?_
      refine j_aload_n C0 dX7_begins_66 rfl ?_
      refine r_gf_21 C0 dX7_begins_67 ?_
      refine j_aload_n C0 dX7_begins_70 rfl ?_
      refine r_gf_20 C0 (v := (F 20)) dX7_begins_71 rfl ?_
      refine j_aload_n C0 dX7_begins_74 rfl ?_
      refine r_gf_1 C0 (v := (F 1)) dX7_begins_75 rfl ?_
      refine r_st_21 C0 hc dX7_begins_78 ?_
      refine j_aload_n C0 dX7_begins_79 rfl ?_
      refine r_gf_22 C0 dX7_begins_80 ?_
      refine j_aload_n C0 dX7_begins_83 rfl ?_
      refine r_gf_20 C0 (v := (F 20)) dX7_begins_84 rfl ?_
      refine j_iload_n C0 dX7_begins_87 rfl ?_
      refine r_st_22 C0 hc dX7_begins_88 ?_
      refine j_aload_n C0 dX7_begins_89 rfl ?_
      refine r_gf_23 C0 dX7_begins_90 ?_
      refine j_aload_n C0 dX7_begins_93 rfl ?_
      refine r_gf_20 C0 (v := (F 20)) dX7_begins_94 rfl ?_
      refine j_iload_n C0 dX7_begins_97 rfl ?_
      refine r_st_23 C0 hc dX7_begins_98 ?_
      refine j_aload_n C0 dX7_begins_99 rfl ?_
      refine r_gf_24 C0 dX7_begins_100 ?_
      refine j_aload_n C0 dX7_begins_103 rfl ?_
      refine r_gf_20 C0 (v := (F 20)) dX7_begins_104 rfl ?_
      refine j_aload_n C0 dX7_begins_107 rfl ?_
      refine j_callVv C0 (k_X7_tugsNow hl ad F (hu (hu (hu (hu G 16 (upd (nf (bX7_begins_15 F G a1) ((G 16)) (((5 : Int32) - vX7_firstReady F G).toNatClampNeg)) ((5 : Int32)).toNatClampNeg (((G 16) ((vX7_firstReady F G)).toNatClampNeg)))) 21 (upd (G 21) ((F 20)).toNatClampNeg ((F 1)))) 22 (upd (G 22) ((F 20)).toNatClampNeg (a1))) 23 (upd (G 23) ((F 20)).toNatClampNeg (((G 16) ((vX7_firstReady F G)).toNatClampNeg))))  hm) mv_X7_tugsNow wm_X7_122 (r_recv C0) rfl rfl ⟨Nat.le_of_ble_eq_true rfl, Nat.le_of_ble_eq_true rfl⟩ (Nat.le_of_ble_eq_true rfl) ⟨Nat.le_refl _, Nat.le_refl _⟩ dX7_begins_108 ?_
      refine j_aload_n C0 dX7_begins_111 rfl ?_
      refine r_gf_6 C0 dX7_begins_112 ?_
      refine j_iload_n C0 dX7_begins_115 rfl ?_
      refine r_ld_6 C0 (v := ((G 6) (a1).toNatClampNeg)) hs1 dX7_begins_116 rfl ?_
      refine j_callSv C0 (k_X7_lowest hl ((vX7_tugsNow F (hu (hu (hu (hu G 16 (upd (nf (bX7_begins_15 F G a1) ((G 16)) (((5 : Int32) - vX7_firstReady F G).toNatClampNeg)) ((5 : Int32)).toNatClampNeg (((G 16) ((vX7_firstReady F G)).toNatClampNeg)))) 21 (upd (G 21) ((F 20)).toNatClampNeg ((F 1)))) 22 (upd (G 22) ((F 20)).toNatClampNeg (a1))) 23 (upd (G 23) ((F 20)).toNatClampNeg (((G 16) ((vX7_firstReady F G)).toNatClampNeg)))))) (((G 6) (a1).toNatClampNeg)) ) ms_X7_lowest wm_X7_132 rfl rfl ⟨Nat.le_of_ble_eq_true rfl, Nat.le_of_ble_eq_true rfl⟩ (Nat.le_of_ble_eq_true rfl) ⟨Nat.le_refl _, Nat.le_refl _⟩ dX7_begins_117 ?_
      refine r_st_24 C0 hc dX7_begins_120 ?_
      refine j_aload_n C0 dX7_begins_121 rfl ?_
      refine r_gf_25 C0 dX7_begins_122 ?_
      refine j_aload_n C0 dX7_begins_125 rfl ?_
      refine r_gf_20 C0 (v := (F 20)) dX7_begins_126 rfl ?_
      refine j_iload C0 dX7_begins_129 rfl ?_
      refine j_if_ne C0 138 dX7_begins_131 (by decide) (fun _ => ?_) (fun z => absurd z (by decide))
      refine j_iconst C0 (v := 0) dX7_begins_138 (by decide) ?_
      refine r_st_25 C0 hc dX7_begins_139 ?_
      refine j_aload_n C0 dX7_begins_140 rfl ?_
      refine j_dup C0 dX7_begins_141 rfl ?_
      refine r_gf_20 C0 (v := (F 20)) dX7_begins_142 rfl ?_
      refine j_iconst C0 (v := 1) dX7_begins_145 (by decide) ?_
      refine j_iadd C0 dX7_begins_146 ?_
      refine r_pf_20 C0 dX7_begins_147 ?_
      refine j_aload_n C0 dX7_begins_150 rfl ?_
      refine j_iload_n C0 dX7_begins_151 rfl ?_
      refine j_bipush C0 (v := 50) dX7_begins_152 (by decide) ?_
      refine j_bipush C0 (v := 30) dX7_begins_154 (by decide) ?_
      refine j_aload_n C0 dX7_begins_156 rfl ?_
      refine r_gf_6 C0 dX7_begins_157 ?_
      refine j_iload_n C0 dX7_begins_160 rfl ?_
      refine r_ld_6 C0 (v := ((G 6) (a1).toNatClampNeg)) hs1 dX7_begins_161 rfl ?_
      refine j_imul C0 dX7_begins_162 ?_
      refine j_iadd C0 dX7_begins_163 ?_
      refine j_iload C0 dX7_begins_164 rfl ?_
      refine j_if_eq C0 181 dX7_begins_166 (by decide) (fun z => absurd z (by decide)) (fun _ => ?_)
      refine j_bipush C0 (v := 100) dX7_begins_169 (by decide) ?_
      refine j_aload_n C0 dX7_begins_171 rfl ?_
      refine r_gf_6 C0 dX7_begins_172 ?_
      refine j_iload_n C0 dX7_begins_175 rfl ?_
      refine r_ld_6 C0 (v := ((G 6) (a1).toNatClampNeg)) hs1 dX7_begins_176 rfl ?_
      refine j_imul C0 dX7_begins_177 ?_
      refine j_goto C0 182 dX7_begins_178 (by decide) ?_
      refine j_iadd C0 dX7_begins_182 ?_
      refine j_callVn C0 (k_X7_pays hl ad (hu F 20 ((F 20) + (1 : Int32))) (hu (hu (hu (hu (hu (hu G 16 (upd (nf (bX7_begins_15 F G a1) ((G 16)) (((5 : Int32) - vX7_firstReady F G).toNatClampNeg)) ((5 : Int32)).toNatClampNeg (((G 16) ((vX7_firstReady F G)).toNatClampNeg)))) 21 (upd (G 21) ((F 20)).toNatClampNeg ((F 1)))) 22 (upd (G 22) ((F 20)).toNatClampNeg (a1))) 23 (upd (G 23) ((F 20)).toNatClampNeg (((G 16) ((vX7_firstReady F G)).toNatClampNeg)))) 24 (upd (G 24) ((F 20)).toNatClampNeg ((vX7_lowest ((vX7_tugsNow F (hu (hu (hu (hu G 16 (upd (nf (bX7_begins_15 F G a1) ((G 16)) (((5 : Int32) - vX7_firstReady F G).toNatClampNeg)) ((5 : Int32)).toNatClampNeg (((G 16) ((vX7_firstReady F G)).toNatClampNeg)))) 21 (upd (G 21) ((F 20)).toNatClampNeg ((F 1)))) 22 (upd (G 22) ((F 20)).toNatClampNeg (a1))) 23 (upd (G 23) ((F 20)).toNatClampNeg (((G 16) ((vX7_firstReady F G)).toNatClampNeg)))))) (((G 6) (a1).toNatClampNeg)))))) 25 (upd (G 25) ((F 20)).toNatClampNeg (vp_nar .boolean (0 : Int32)))) (a1) ((((50 : Int32) + ((30 : Int32) * ((G 6) (a1).toNatClampNeg))) + ((100 : Int32) * ((G 6) (a1).toNatClampNeg)))) hs1) mv_X7_pays wm_X7_125 (r_recv C0) rfl rfl ⟨Nat.le_of_ble_eq_true rfl, Nat.le_of_ble_eq_true rfl⟩ (Nat.le_of_ble_eq_true rfl) ⟨Nat.le_refl _, Nat.le_refl _⟩ dX7_begins_183 ?_
      show J p l e _ s m args below meth c A 5 _ (OV D Y A ad (F 0) (F 1) (F 5) (F 18) (F 19) ((F 20) + (1 : Int32)) (G 2) (G 3) (G 4) (G 6) (G 7) (G 8) (G 9) (G 10) (G 11) (G 12) (upd (G 13) (a1).toNatClampNeg (((G 13) (a1).toNatClampNeg) + (((50 : Int32) + ((30 : Int32) * ((G 6) (a1).toNatClampNeg))) + ((100 : Int32) * ((G 6) (a1).toNatClampNeg))))) (G 14) (G 15) (upd (nf (bX7_begins_15 F G a1) ((G 16)) (((5 : Int32) - vX7_firstReady F G).toNatClampNeg)) ((5 : Int32)).toNatClampNeg (((G 16) ((vX7_firstReady F G)).toNatClampNeg))) (G 17) (upd (G 21) ((F 20)).toNatClampNeg ((F 1))) (upd (G 22) ((F 20)).toNatClampNeg (a1)) (upd (G 23) ((F 20)).toNatClampNeg (((G 16) ((vX7_firstReady F G)).toNatClampNeg))) (upd (G 24) ((F 20)).toNatClampNeg ((vX7_lowest ((vX7_tugsNow F (hu (hu (hu (hu G 16 (upd (nf (bX7_begins_15 F G a1) ((G 16)) (((5 : Int32) - vX7_firstReady F G).toNatClampNeg)) ((5 : Int32)).toNatClampNeg (((G 16) ((vX7_firstReady F G)).toNatClampNeg)))) 21 (upd (G 21) ((F 20)).toNatClampNeg ((F 1)))) 22 (upd (G 22) ((F 20)).toNatClampNeg (a1))) 23 (upd (G 23) ((F 20)).toNatClampNeg (((G 16) ((vX7_firstReady F G)).toNatClampNeg)))))) (((G 6) (a1).toNatClampNeg))))) (upd (G 25) ((F 20)).toNatClampNeg (vp_nar .boolean (0 : Int32)))) 0 0 186 [(0, .ref (ad 0)), (1, .int (a1)), (2, .int ((vX7_firstReady F G))), (3, .int (((G 16) ((vX7_firstReady F G)).toNatClampNeg))), (4, .int ((1 : Int32)))] []
      refine j_aload_n C0 dX7_begins_186 rfl ?_
      refine r_gf_17 C0 dX7_begins_187 ?_
      refine j_iload_n C0 dX7_begins_190 rfl ?_
      refine j_dup2 C0 dX7_begins_191 rfl rfl ?_
      refine r_ld_17 C0 (v := ((G 17) (((G 16) ((vX7_firstReady F G)).toNatClampNeg)).toNatClampNeg)) hpil dX7_begins_192 rfl ?_
      refine j_bipush C0 (v := 50) dX7_begins_193 (by decide) ?_
      refine j_iadd C0 dX7_begins_195 ?_
      refine r_st_17 C0 hpil dX7_begins_196 ?_
      refine j_aload_n C0 dX7_begins_197 rfl ?_
      refine j_dup C0 dX7_begins_198 rfl ?_
      refine r_gf_18 C0 (v := (F 18)) dX7_begins_199 rfl ?_
      refine j_bipush C0 (v := 30) dX7_begins_202 (by decide) ?_
      refine j_aload_n C0 dX7_begins_204 rfl ?_
      refine r_gf_6 C0 dX7_begins_205 ?_
      refine j_iload_n C0 dX7_begins_208 rfl ?_
      refine r_ld_6 C0 (v := ((G 6) (a1).toNatClampNeg)) hs1 dX7_begins_209 rfl ?_
      refine j_imul C0 dX7_begins_210 ?_
      refine j_iadd C0 dX7_begins_211 ?_
      refine r_pf_18 C0 dX7_begins_212 ?_
      refine j_aload_n C0 dX7_begins_215 rfl ?_
      refine j_dup C0 dX7_begins_216 rfl ?_
      refine r_gf_19 C0 (v := (F 19)) dX7_begins_217 rfl ?_
      refine j_iload C0 dX7_begins_220 rfl ?_
      refine j_if_eq C0 237 dX7_begins_222 (by decide) (fun z => absurd z (by decide)) (fun _ => ?_)
      refine j_bipush C0 (v := 100) dX7_begins_225 (by decide) ?_
      refine j_aload_n C0 dX7_begins_227 rfl ?_
      refine r_gf_6 C0 dX7_begins_228 ?_
      refine j_iload_n C0 dX7_begins_231 rfl ?_
      refine r_ld_6 C0 (v := ((G 6) (a1).toNatClampNeg)) hs1 dX7_begins_232 rfl ?_
      refine j_imul C0 dX7_begins_233 ?_
      refine j_goto C0 238 dX7_begins_234 (by decide) ?_
      refine j_iadd C0 dX7_begins_238 ?_
      refine r_pf_19 C0 dX7_begins_239 ?_
      refine j_aload_n C0 dX7_begins_242 rfl ?_
      refine r_gf_10 C0 dX7_begins_243 ?_
      refine j_iload_n C0 dX7_begins_246 rfl ?_
      refine j_iload C0 dX7_begins_247 rfl ?_
      refine j_if_eq C0 256 dX7_begins_249 (by decide) (fun z => absurd z (by decide)) (fun _ => ?_)
      refine j_iconst C0 (v := 1) dX7_begins_252 (by decide) ?_
      refine j_goto C0 257 dX7_begins_253 (by decide) ?_
      refine r_st_10 C0 hs1 dX7_begins_257 ?_
      refine j_aload_n C0 dX7_begins_258 rfl ?_
      refine r_gf_12 C0 dX7_begins_259 ?_
      refine j_iload_n C0 dX7_begins_262 rfl ?_
      refine j_aload_n C0 dX7_begins_263 rfl ?_
      refine r_gf_1 C0 (v := (F 1)) dX7_begins_264 rfl ?_
      refine r_st_12 C0 hs1 dX7_begins_267 ?_
      refine j_aload_n C0 dX7_begins_268 rfl ?_
      refine r_gf_11 C0 dX7_begins_269 ?_
      refine j_iload_n C0 dX7_begins_272 rfl ?_
      refine j_iconst C0 (v := -1) dX7_begins_273 (by decide) ?_
      refine r_st_11 C0 hs1 dX7_begins_274 ?_
      exact j_vret C0 rfl dX7_begins_275 (fun H h => by rw [sX7_begins, if_pos q3]; exact h)
theorem firstReady_in (F : Nat → Int32) (G : Nat → Nat → Int32) (h : ¬ vX7_firstReady F G = -1) : vp_in (vX7_firstReady F G) 6 := by
  have key : ∀ N, N ≤ 6 → nf (bX7_firstReady_4 F G) (-1 : Int32) N = -1 ∨ vp_in (nf (bX7_firstReady_4 F G) (-1 : Int32) N) 6 := by
    intro N
    induction N with
    | zero => intro _; exact Or.inl rfl
    | succ n ih =>
      intro hn
      rw [nf, bX7_firstReady_4]
      split
      · exact ih (by omega)
      · exact Or.inr (dn_in (by omega))
  exact (key 6 (by decide)).resolve_left h
/-! ## looksAt(I)V -/
theorem cnt_lt {x : Int32} (h : ct x 100) (h2 : ¬ (100 : Int32) ≤ x) : vp_in x 100 := by
  obtain ⟨k, h1, rfl⟩ := h
  have : k < 100 := by
    rcases Nat.lt_or_ge k 100 with q | q
    · exact q
    · exact absurd (nI_le (a := 100) (b := k) q (by omega)) h2
  exact vp_in_nI this (by decide)
def sX7_looksAt (F : Nat → Int32) (G : Nat → Nat → Int32) (a1 : Int32) : (Nat → Int32) × (Nat → Nat → Int32) := (if (vX7_floats F G (a1) ((F 1))) = 0 then (if ((G 11) (a1).toNatClampNeg) = (F 1) then ((sX7_loses F G (a1)).1, (sX7_loses F G (a1)).2) else (if ((F 1) - ((G 11) (a1).toNatClampNeg)) < (3 : Int32) then (F, G) else (F, (hu (hu G 15 (upd (G 15) (a1).toNatClampNeg ((((G 15) (a1).toNatClampNeg) + (1 : Int32))))) 11 (upd (G 11) (a1).toNatClampNeg ((-1 : Int32))))))) else (if ((G 10) (a1).toNatClampNeg) = (2 : Int32) then (if (100 : Int32) ≤ (F 20) then (if ((F 1) - ((G 11) (a1).toNatClampNeg)) < (3 : Int32) then (F, G) else (F, (hu (hu G 15 (upd (G 15) (a1).toNatClampNeg ((((G 15) (a1).toNatClampNeg) + (1 : Int32))))) 11 (upd (G 11) (a1).toNatClampNeg ((-1 : Int32)))))) else (if (vX7_firstReady F G) = (-1 : Int32) then (if ((F 1) - ((G 11) (a1).toNatClampNeg)) < (3 : Int32) then (F, G) else (F, (hu (hu G 15 (upd (G 15) (a1).toNatClampNeg ((((G 15) (a1).toNatClampNeg) + (1 : Int32))))) 11 (upd (G 11) (a1).toNatClampNeg ((-1 : Int32)))))) else (if (vX7_many ((vX7_tugsNow F G))) < ((G 6) (a1).toNatClampNeg) then (if ((F 1) - ((G 11) (a1).toNatClampNeg)) < (3 : Int32) then (F, G) else (F, (hu (hu G 15 (upd (G 15) (a1).toNatClampNeg ((((G 15) (a1).toNatClampNeg) + (1 : Int32))))) 11 (upd (G 11) (a1).toNatClampNeg ((-1 : Int32)))))) else ((sX7_begins F G (a1)).1, (sX7_begins F G (a1)).2)))) else (if (vX7_isFree F G (((G 9) (a1).toNatClampNeg))) = 0 then (if ((F 1) - ((G 11) (a1).toNatClampNeg)) < (3 : Int32) then (F, G) else (F, (hu (hu G 15 (upd (G 15) (a1).toNatClampNeg ((((G 15) (a1).toNatClampNeg) + (1 : Int32))))) 11 (upd (G 11) (a1).toNatClampNeg ((-1 : Int32)))))) else (if (100 : Int32) ≤ (F 20) then (if ((F 1) - ((G 11) (a1).toNatClampNeg)) < (3 : Int32) then (F, G) else (F, (hu (hu G 15 (upd (G 15) (a1).toNatClampNeg ((((G 15) (a1).toNatClampNeg) + (1 : Int32))))) 11 (upd (G 11) (a1).toNatClampNeg ((-1 : Int32)))))) else (if (vX7_firstReady F G) = (-1 : Int32) then (if ((F 1) - ((G 11) (a1).toNatClampNeg)) < (3 : Int32) then (F, G) else (F, (hu (hu G 15 (upd (G 15) (a1).toNatClampNeg ((((G 15) (a1).toNatClampNeg) + (1 : Int32))))) 11 (upd (G 11) (a1).toNatClampNeg ((-1 : Int32)))))) else (if (vX7_many ((vX7_tugsNow F G))) < ((G 6) (a1).toNatClampNeg) then (if ((F 1) - ((G 11) (a1).toNatClampNeg)) < (3 : Int32) then (F, G) else (F, (hu (hu G 15 (upd (G 15) (a1).toNatClampNeg ((((G 15) (a1).toNatClampNeg) + (1 : Int32))))) 11 (upd (G 11) (a1).toNatClampNeg ((-1 : Int32)))))) else ((sX7_begins F G (a1)).1, (sX7_begins F G (a1)).2)))))))
set_option maxRecDepth 100000 in
set_option maxHeartbeats 4000000 in
theorem k_X7_looksAt {l : Launch} (hl : l.stackTraces = false) {D : va_G} {Y : Nat → ClassId} {A : Nat → Prop} {E : State → Prop} (ad : Nat → Nat) (F : Nat → Int32) (G : Nat → Nat → Int32) (a1 : Int32) (hI : RI F G) (hs1 : vp_in a1 30) : KM l yX7_looksAt cX7_looksAt 4 none D Y A E 3 70 0 0 [.ref (ad 0), .int (a1)] (OR D Y A ad F G) none (OR D Y A ad (sX7_looksAt F G a1).1 (sX7_looksAt F G a1).2) := by
  refine KM_of RX7 [(0, .ref (ad 0)), (1, .int (a1))] rfl (by decide) hl (Nat.le_of_ble_eq_true rfl) rfl (lok_of rfl rfl) ?_
  intro p e s m args below meth c C0
  obtain ⟨hn, hs, hm, hb, hw, hr⟩ := id hI
  obtain ⟨nn, hnn, hne⟩ := id hn
  have hh : vp_in (F 1) 3160 := by rw [hne]; exact vp_in_nI (by omega) (by decide)
  have hh1 : vp_in (F 1 + 1) 3160 := by rw [hne, nI_1]; exact vp_in_nI (by omega) (by decide)
  have hb1 := hb _ (vp_cl hs1)
  refine j_aload_n C0 dX7_looksAt_0 rfl ?_
  refine j_iload_n C0 dX7_looksAt_1 rfl ?_
  refine j_aload_n C0 dX7_looksAt_2 rfl ?_
  refine r_gf_1 C0 (v := (F 1)) dX7_looksAt_3 rfl ?_
  refine j_callVv C0 (k_X7_floats hl ad F G (a1) ((F 1)) hs1 hb1 hh hh1) mv_X7_floats wm_X7_106 (r_recv C0) rfl rfl ⟨Nat.le_of_ble_eq_true rfl, Nat.le_of_ble_eq_true rfl⟩ (Nat.le_of_ble_eq_true rfl) ⟨Nat.le_refl _, Nat.le_refl _⟩ dX7_looksAt_6 ?_
  refine j_istore_n C0 (L' := [(0, .ref (ad 0)), (1, .int (a1)), (2, .int ((vX7_floats F G (a1) ((F 1)))))]) dX7_looksAt_9 (by decide) rfl ?_
  refine j_iload_n C0 dX7_looksAt_10 rfl ?_
  refine j_if_eq C0 74 dX7_looksAt_11 (by decide) (fun (q1 : (vX7_floats F G (a1) ((F 1))) = 0) => ?_) (fun (q1 : ¬ ((vX7_floats F G (a1) ((F 1))) = 0)) => ?_)
  ·
    refine j_iconst C0 (v := 0) dX7_looksAt_74 (by decide) ?_
    refine j_istore_n C0 (L' := [(0, .ref (ad 0)), (1, .int (a1)), (2, .int ((vX7_floats F G (a1) ((F 1))))), (3, .int ((0 : Int32)))]) dX7_looksAt_75 (by decide) rfl ?_
    refine j_iload_n C0 dX7_looksAt_76 rfl ?_
    refine j_if_ne C0 101 dX7_looksAt_77 (by decide) (fun z => absurd q1 z) (fun _ => ?_)
    refine j_aload_n C0 dX7_looksAt_80 rfl ?_
    refine r_gf_11 C0 dX7_looksAt_81 ?_
    refine j_iload_n C0 dX7_looksAt_84 rfl ?_
    refine r_ld_11 C0 (v := ((G 11) (a1).toNatClampNeg)) hs1 dX7_looksAt_85 rfl ?_
    refine j_aload_n C0 dX7_looksAt_86 rfl ?_
    refine r_gf_1 C0 (v := (F 1)) dX7_looksAt_87 rfl ?_
    refine j_icmp_ne C0 101 dX7_looksAt_90 (by decide) (fun (q3 : ¬ (((G 11) (a1).toNatClampNeg) = (F 1))) => ?_) (fun (q3 : ((G 11) (a1).toNatClampNeg) = (F 1)) => ?_)
    ·
      refine j_iload_n C0 dX7_looksAt_101 rfl ?_
      refine j_if_eq C0 113 dX7_looksAt_102 (by decide) (fun _ => ?_) (fun z => absurd (by decide) z)
      refine j_aload_n C0 dX7_looksAt_113 rfl ?_
      refine r_gf_1 C0 (v := (F 1)) dX7_looksAt_114 rfl ?_
      refine j_aload_n C0 dX7_looksAt_117 rfl ?_
      refine r_gf_11 C0 dX7_looksAt_118 ?_
      refine j_iload_n C0 dX7_looksAt_121 rfl ?_
      refine r_ld_11 C0 (v := ((G 11) (a1).toNatClampNeg)) hs1 dX7_looksAt_122 rfl ?_
      refine j_isub C0 dX7_looksAt_123 ?_
      refine j_iconst C0 (v := 3) dX7_looksAt_124 (by decide) ?_
      refine j_icmp_lt C0 145 dX7_looksAt_125 (by decide) (fun (q5 : ((F 1) - ((G 11) (a1).toNatClampNeg)) < (3 : Int32)) => ?_) (fun (q5 : ¬ (((F 1) - ((G 11) (a1).toNatClampNeg)) < (3 : Int32))) => ?_)
      ·
        exact j_vret C0 rfl dX7_looksAt_145 (fun H h => by rw [sX7_looksAt, if_pos q1, if_neg q3, if_pos q5]; exact h)
      ·
        refine j_aload_n C0 dX7_looksAt_128 rfl ?_
        refine r_gf_15 C0 dX7_looksAt_129 ?_
        refine j_iload_n C0 dX7_looksAt_132 rfl ?_
        refine j_dup2 C0 dX7_looksAt_133 rfl rfl ?_
        refine r_ld_15 C0 (v := ((G 15) (a1).toNatClampNeg)) hs1 dX7_looksAt_134 rfl ?_
        refine j_iconst C0 (v := 1) dX7_looksAt_135 (by decide) ?_
        refine j_iadd C0 dX7_looksAt_136 ?_
        refine r_st_15 C0 hs1 dX7_looksAt_137 ?_
        refine j_aload_n C0 dX7_looksAt_138 rfl ?_
        refine r_gf_11 C0 dX7_looksAt_139 ?_
        refine j_iload_n C0 dX7_looksAt_142 rfl ?_
        refine j_iconst C0 (v := -1) dX7_looksAt_143 (by decide) ?_
        refine r_st_11 C0 hs1 dX7_looksAt_144 ?_
        exact j_vret C0 rfl dX7_looksAt_145 (fun H h => by rw [sX7_looksAt, if_pos q1, if_neg q3, if_neg q5]; exact h)
    ·
      refine j_aload_n C0 dX7_looksAt_93 rfl ?_
      refine j_iload_n C0 dX7_looksAt_94 rfl ?_
      refine j_callVn C0 (k_X7_loses hl ad F G (a1) hs1 hr) mv_X7_loses wm_X7_148 (r_recv C0) rfl rfl ⟨Nat.le_of_ble_eq_true rfl, Nat.le_of_ble_eq_true rfl⟩ (Nat.le_of_ble_eq_true rfl) ⟨Nat.le_refl _, Nat.le_refl _⟩ dX7_looksAt_95 ?_
      show J p l e _ s m args below meth c A 4 _ (OV D Y A ad ((sX7_loses F G (a1)).1 0) ((sX7_loses F G (a1)).1 1) ((sX7_loses F G (a1)).1 5) ((sX7_loses F G (a1)).1 18) ((sX7_loses F G (a1)).1 19) ((sX7_loses F G (a1)).1 20) ((sX7_loses F G (a1)).2 2) ((sX7_loses F G (a1)).2 3) ((sX7_loses F G (a1)).2 4) ((sX7_loses F G (a1)).2 6) ((sX7_loses F G (a1)).2 7) ((sX7_loses F G (a1)).2 8) ((sX7_loses F G (a1)).2 9) ((sX7_loses F G (a1)).2 10) ((sX7_loses F G (a1)).2 11) ((sX7_loses F G (a1)).2 12) ((sX7_loses F G (a1)).2 13) ((sX7_loses F G (a1)).2 14) ((sX7_loses F G (a1)).2 15) ((sX7_loses F G (a1)).2 16) ((sX7_loses F G (a1)).2 17) ((sX7_loses F G (a1)).2 21) ((sX7_loses F G (a1)).2 22) ((sX7_loses F G (a1)).2 23) ((sX7_loses F G (a1)).2 24) ((sX7_loses F G (a1)).2 25)) 0 0 98 [(0, .ref (ad 0)), (1, .int (a1)), (2, .int ((vX7_floats F G (a1) ((F 1))))), (3, .int ((0 : Int32)))] []
      refine j_goto C0 145 dX7_looksAt_98 (by decide) ?_
      exact j_vret C0 rfl dX7_looksAt_145 (fun H h => by rw [sX7_looksAt, if_pos q1, if_pos q3]; exact h)
  ·
    refine j_aload_n C0 dX7_looksAt_14 rfl ?_
    refine r_gf_10 C0 dX7_looksAt_15 ?_
    refine j_iload_n C0 dX7_looksAt_18 rfl ?_
    refine r_ld_10 C0 (v := ((G 10) (a1).toNatClampNeg)) hs1 dX7_looksAt_19 rfl ?_
    refine j_iconst C0 (v := 2) dX7_looksAt_20 (by decide) ?_
    refine j_icmp_eq C0 37 dX7_looksAt_21 (by decide) (fun (q6 : ((G 10) (a1).toNatClampNeg) = (2 : Int32)) => ?_) (fun (q6 : ¬ (((G 10) (a1).toNatClampNeg) = (2 : Int32))) => ?_)
    ·
      refine j_aload_n C0 dX7_looksAt_37 rfl ?_
      refine r_gf_20 C0 (v := (F 20)) dX7_looksAt_38 rfl ?_
      refine j_bipush C0 (v := 100) dX7_looksAt_41 (by decide) ?_
      refine j_icmp_ge C0 74 dX7_looksAt_43 (by decide) (fun (q7 : (100 : Int32) ≤ (F 20)) => ?_) (fun (q7 : ¬ ((100 : Int32) ≤ (F 20))) => ?_)
      ·
        refine j_iconst C0 (v := 0) dX7_looksAt_74 (by decide) ?_
        refine j_istore_n C0 (L' := [(0, .ref (ad 0)), (1, .int (a1)), (2, .int ((vX7_floats F G (a1) ((F 1))))), (3, .int ((0 : Int32)))]) dX7_looksAt_75 (by decide) rfl ?_
        refine j_iload_n C0 dX7_looksAt_76 rfl ?_
        refine j_if_ne C0 101 dX7_looksAt_77 (by decide) (fun _ => ?_) (fun z => absurd z q1)
        refine j_iload_n C0 dX7_looksAt_101 rfl ?_
        refine j_if_eq C0 113 dX7_looksAt_102 (by decide) (fun _ => ?_) (fun z => absurd (by decide) z)
        refine j_aload_n C0 dX7_looksAt_113 rfl ?_
        refine r_gf_1 C0 (v := (F 1)) dX7_looksAt_114 rfl ?_
        refine j_aload_n C0 dX7_looksAt_117 rfl ?_
        refine r_gf_11 C0 dX7_looksAt_118 ?_
        refine j_iload_n C0 dX7_looksAt_121 rfl ?_
        refine r_ld_11 C0 (v := ((G 11) (a1).toNatClampNeg)) hs1 dX7_looksAt_122 rfl ?_
        refine j_isub C0 dX7_looksAt_123 ?_
        refine j_iconst C0 (v := 3) dX7_looksAt_124 (by decide) ?_
        refine j_icmp_lt C0 145 dX7_looksAt_125 (by decide) (fun (q10 : ((F 1) - ((G 11) (a1).toNatClampNeg)) < (3 : Int32)) => ?_) (fun (q10 : ¬ (((F 1) - ((G 11) (a1).toNatClampNeg)) < (3 : Int32))) => ?_)
        ·
          exact j_vret C0 rfl dX7_looksAt_145 (fun H h => by rw [sX7_looksAt, if_neg q1, if_pos q6, if_pos q7, if_pos q10]; exact h)
        ·
          refine j_aload_n C0 dX7_looksAt_128 rfl ?_
          refine r_gf_15 C0 dX7_looksAt_129 ?_
          refine j_iload_n C0 dX7_looksAt_132 rfl ?_
          refine j_dup2 C0 dX7_looksAt_133 rfl rfl ?_
          refine r_ld_15 C0 (v := ((G 15) (a1).toNatClampNeg)) hs1 dX7_looksAt_134 rfl ?_
          refine j_iconst C0 (v := 1) dX7_looksAt_135 (by decide) ?_
          refine j_iadd C0 dX7_looksAt_136 ?_
          refine r_st_15 C0 hs1 dX7_looksAt_137 ?_
          refine j_aload_n C0 dX7_looksAt_138 rfl ?_
          refine r_gf_11 C0 dX7_looksAt_139 ?_
          refine j_iload_n C0 dX7_looksAt_142 rfl ?_
          refine j_iconst C0 (v := -1) dX7_looksAt_143 (by decide) ?_
          refine r_st_11 C0 hs1 dX7_looksAt_144 ?_
          exact j_vret C0 rfl dX7_looksAt_145 (fun H h => by rw [sX7_looksAt, if_neg q1, if_pos q6, if_pos q7, if_neg q10]; exact h)
      ·
        refine j_aload_n C0 dX7_looksAt_46 rfl ?_
        refine j_callVv C0 (k_X7_firstReady hl ad F G  hm) mv_X7_firstReady wm_X7_129 (r_recv C0) rfl rfl ⟨Nat.le_of_ble_eq_true rfl, Nat.le_of_ble_eq_true rfl⟩ (Nat.le_of_ble_eq_true rfl) ⟨Nat.le_refl _, Nat.le_refl _⟩ dX7_looksAt_47 ?_
        refine j_iconst C0 (v := -1) dX7_looksAt_50 (by decide) ?_
        refine j_icmp_eq C0 74 dX7_looksAt_51 (by decide) (fun (q11 : (vX7_firstReady F G) = (-1 : Int32)) => ?_) (fun (q11 : ¬ ((vX7_firstReady F G) = (-1 : Int32))) => ?_)
        ·
          refine j_iconst C0 (v := 0) dX7_looksAt_74 (by decide) ?_
          refine j_istore_n C0 (L' := [(0, .ref (ad 0)), (1, .int (a1)), (2, .int ((vX7_floats F G (a1) ((F 1))))), (3, .int ((0 : Int32)))]) dX7_looksAt_75 (by decide) rfl ?_
          refine j_iload_n C0 dX7_looksAt_76 rfl ?_
          refine j_if_ne C0 101 dX7_looksAt_77 (by decide) (fun _ => ?_) (fun z => absurd z q1)
          refine j_iload_n C0 dX7_looksAt_101 rfl ?_
          refine j_if_eq C0 113 dX7_looksAt_102 (by decide) (fun _ => ?_) (fun z => absurd (by decide) z)
          refine j_aload_n C0 dX7_looksAt_113 rfl ?_
          refine r_gf_1 C0 (v := (F 1)) dX7_looksAt_114 rfl ?_
          refine j_aload_n C0 dX7_looksAt_117 rfl ?_
          refine r_gf_11 C0 dX7_looksAt_118 ?_
          refine j_iload_n C0 dX7_looksAt_121 rfl ?_
          refine r_ld_11 C0 (v := ((G 11) (a1).toNatClampNeg)) hs1 dX7_looksAt_122 rfl ?_
          refine j_isub C0 dX7_looksAt_123 ?_
          refine j_iconst C0 (v := 3) dX7_looksAt_124 (by decide) ?_
          refine j_icmp_lt C0 145 dX7_looksAt_125 (by decide) (fun (q14 : ((F 1) - ((G 11) (a1).toNatClampNeg)) < (3 : Int32)) => ?_) (fun (q14 : ¬ (((F 1) - ((G 11) (a1).toNatClampNeg)) < (3 : Int32))) => ?_)
          ·
            exact j_vret C0 rfl dX7_looksAt_145 (fun H h => by rw [sX7_looksAt, if_neg q1, if_pos q6, if_neg q7, if_pos q11, if_pos q14]; exact h)
          ·
            refine j_aload_n C0 dX7_looksAt_128 rfl ?_
            refine r_gf_15 C0 dX7_looksAt_129 ?_
            refine j_iload_n C0 dX7_looksAt_132 rfl ?_
            refine j_dup2 C0 dX7_looksAt_133 rfl rfl ?_
            refine r_ld_15 C0 (v := ((G 15) (a1).toNatClampNeg)) hs1 dX7_looksAt_134 rfl ?_
            refine j_iconst C0 (v := 1) dX7_looksAt_135 (by decide) ?_
            refine j_iadd C0 dX7_looksAt_136 ?_
            refine r_st_15 C0 hs1 dX7_looksAt_137 ?_
            refine j_aload_n C0 dX7_looksAt_138 rfl ?_
            refine r_gf_11 C0 dX7_looksAt_139 ?_
            refine j_iload_n C0 dX7_looksAt_142 rfl ?_
            refine j_iconst C0 (v := -1) dX7_looksAt_143 (by decide) ?_
            refine r_st_11 C0 hs1 dX7_looksAt_144 ?_
            exact j_vret C0 rfl dX7_looksAt_145 (fun H h => by rw [sX7_looksAt, if_neg q1, if_pos q6, if_neg q7, if_pos q11, if_neg q14]; exact h)
        ·
          refine j_aload_n C0 dX7_looksAt_54 rfl ?_
          refine j_callVv C0 (k_X7_tugsNow hl ad F G  hm) mv_X7_tugsNow wm_X7_122 (r_recv C0) rfl rfl ⟨Nat.le_of_ble_eq_true rfl, Nat.le_of_ble_eq_true rfl⟩ (Nat.le_of_ble_eq_true rfl) ⟨Nat.le_refl _, Nat.le_refl _⟩ dX7_looksAt_55 ?_
          refine j_callSv C0 (k_X7_many hl ((vX7_tugsNow F G)) ) ms_X7_many wm_X7_145 rfl rfl ⟨Nat.le_of_ble_eq_true rfl, Nat.le_of_ble_eq_true rfl⟩ (Nat.le_of_ble_eq_true rfl) ⟨Nat.le_refl _, Nat.le_refl _⟩ dX7_looksAt_58 ?_
          refine j_aload_n C0 dX7_looksAt_61 rfl ?_
          refine r_gf_6 C0 dX7_looksAt_62 ?_
          refine j_iload_n C0 dX7_looksAt_65 rfl ?_
          refine r_ld_6 C0 (v := ((G 6) (a1).toNatClampNeg)) hs1 dX7_looksAt_66 rfl ?_
          refine j_icmp_lt C0 74 dX7_looksAt_67 (by decide) (fun (q15 : (vX7_many ((vX7_tugsNow F G))) < ((G 6) (a1).toNatClampNeg)) => ?_) (fun (q15 : ¬ ((vX7_many ((vX7_tugsNow F G))) < ((G 6) (a1).toNatClampNeg))) => ?_)
          ·
            refine j_iconst C0 (v := 0) dX7_looksAt_74 (by decide) ?_
            refine j_istore_n C0 (L' := [(0, .ref (ad 0)), (1, .int (a1)), (2, .int ((vX7_floats F G (a1) ((F 1))))), (3, .int ((0 : Int32)))]) dX7_looksAt_75 (by decide) rfl ?_
            refine j_iload_n C0 dX7_looksAt_76 rfl ?_
            refine j_if_ne C0 101 dX7_looksAt_77 (by decide) (fun _ => ?_) (fun z => absurd z q1)
            refine j_iload_n C0 dX7_looksAt_101 rfl ?_
            refine j_if_eq C0 113 dX7_looksAt_102 (by decide) (fun _ => ?_) (fun z => absurd (by decide) z)
            refine j_aload_n C0 dX7_looksAt_113 rfl ?_
            refine r_gf_1 C0 (v := (F 1)) dX7_looksAt_114 rfl ?_
            refine j_aload_n C0 dX7_looksAt_117 rfl ?_
            refine r_gf_11 C0 dX7_looksAt_118 ?_
            refine j_iload_n C0 dX7_looksAt_121 rfl ?_
            refine r_ld_11 C0 (v := ((G 11) (a1).toNatClampNeg)) hs1 dX7_looksAt_122 rfl ?_
            refine j_isub C0 dX7_looksAt_123 ?_
            refine j_iconst C0 (v := 3) dX7_looksAt_124 (by decide) ?_
            refine j_icmp_lt C0 145 dX7_looksAt_125 (by decide) (fun (q18 : ((F 1) - ((G 11) (a1).toNatClampNeg)) < (3 : Int32)) => ?_) (fun (q18 : ¬ (((F 1) - ((G 11) (a1).toNatClampNeg)) < (3 : Int32))) => ?_)
            ·
              exact j_vret C0 rfl dX7_looksAt_145 (fun H h => by rw [sX7_looksAt, if_neg q1, if_pos q6, if_neg q7, if_neg q11, if_pos q15, if_pos q18]; exact h)
            ·
              refine j_aload_n C0 dX7_looksAt_128 rfl ?_
              refine r_gf_15 C0 dX7_looksAt_129 ?_
              refine j_iload_n C0 dX7_looksAt_132 rfl ?_
              refine j_dup2 C0 dX7_looksAt_133 rfl rfl ?_
              refine r_ld_15 C0 (v := ((G 15) (a1).toNatClampNeg)) hs1 dX7_looksAt_134 rfl ?_
              refine j_iconst C0 (v := 1) dX7_looksAt_135 (by decide) ?_
              refine j_iadd C0 dX7_looksAt_136 ?_
              refine r_st_15 C0 hs1 dX7_looksAt_137 ?_
              refine j_aload_n C0 dX7_looksAt_138 rfl ?_
              refine r_gf_11 C0 dX7_looksAt_139 ?_
              refine j_iload_n C0 dX7_looksAt_142 rfl ?_
              refine j_iconst C0 (v := -1) dX7_looksAt_143 (by decide) ?_
              refine r_st_11 C0 hs1 dX7_looksAt_144 ?_
              exact j_vret C0 rfl dX7_looksAt_145 (fun H h => by rw [sX7_looksAt, if_neg q1, if_pos q6, if_neg q7, if_neg q11, if_pos q15, if_neg q18]; exact h)
          ·
            refine j_iconst C0 (v := 1) dX7_looksAt_70 (by decide) ?_
            refine j_goto C0 75 dX7_looksAt_71 (by decide) ?_
            refine j_istore_n C0 (L' := [(0, .ref (ad 0)), (1, .int (a1)), (2, .int ((vX7_floats F G (a1) ((F 1))))), (3, .int ((1 : Int32)))]) dX7_looksAt_75 (by decide) rfl ?_
            refine j_iload_n C0 dX7_looksAt_76 rfl ?_
            refine j_if_ne C0 101 dX7_looksAt_77 (by decide) (fun _ => ?_) (fun z => absurd z q1)
            refine j_iload_n C0 dX7_looksAt_101 rfl ?_
            refine j_if_eq C0 113 dX7_looksAt_102 (by decide) (fun z => absurd z (by decide)) (fun _ => ?_)
            refine j_aload_n C0 dX7_looksAt_105 rfl ?_
            refine j_iload_n C0 dX7_looksAt_106 rfl ?_
            refine j_callVn C0 (k_X7_begins hl ad F G (a1) hI hs1 (firstReady_in F G q11) (cnt_lt hm q7)) mv_X7_begins wm_X7_152 (r_recv C0) rfl rfl ⟨Nat.le_of_ble_eq_true rfl, Nat.le_of_ble_eq_true rfl⟩ (Nat.le_of_ble_eq_true rfl) ⟨Nat.le_refl _, Nat.le_refl _⟩ dX7_looksAt_107 ?_
            show J p l e _ s m args below meth c A 4 _ (OV D Y A ad ((sX7_begins F G (a1)).1 0) ((sX7_begins F G (a1)).1 1) ((sX7_begins F G (a1)).1 5) ((sX7_begins F G (a1)).1 18) ((sX7_begins F G (a1)).1 19) ((sX7_begins F G (a1)).1 20) ((sX7_begins F G (a1)).2 2) ((sX7_begins F G (a1)).2 3) ((sX7_begins F G (a1)).2 4) ((sX7_begins F G (a1)).2 6) ((sX7_begins F G (a1)).2 7) ((sX7_begins F G (a1)).2 8) ((sX7_begins F G (a1)).2 9) ((sX7_begins F G (a1)).2 10) ((sX7_begins F G (a1)).2 11) ((sX7_begins F G (a1)).2 12) ((sX7_begins F G (a1)).2 13) ((sX7_begins F G (a1)).2 14) ((sX7_begins F G (a1)).2 15) ((sX7_begins F G (a1)).2 16) ((sX7_begins F G (a1)).2 17) ((sX7_begins F G (a1)).2 21) ((sX7_begins F G (a1)).2 22) ((sX7_begins F G (a1)).2 23) ((sX7_begins F G (a1)).2 24) ((sX7_begins F G (a1)).2 25)) 0 0 110 [(0, .ref (ad 0)), (1, .int (a1)), (2, .int ((vX7_floats F G (a1) ((F 1))))), (3, .int ((1 : Int32)))] []
            refine j_goto C0 145 dX7_looksAt_110 (by decide) ?_
            exact j_vret C0 rfl dX7_looksAt_145 (fun H h => by rw [sX7_looksAt, if_neg q1, if_pos q6, if_neg q7, if_neg q11, if_neg q15]; exact h)
    ·
      refine j_aload_n C0 dX7_looksAt_24 rfl ?_
      refine j_aload_n C0 dX7_looksAt_25 rfl ?_
      refine r_gf_9 C0 dX7_looksAt_26 ?_
      refine j_iload_n C0 dX7_looksAt_29 rfl ?_
      refine r_ld_9 C0 (v := ((G 9) (a1).toNatClampNeg)) hs1 dX7_looksAt_30 rfl ?_
      refine j_callVv C0 (k_X7_isFree hl ad F G (((G 9) (a1).toNatClampNeg)) hs) mv_X7_isFree wm_X7_142 (r_recv C0) rfl rfl ⟨Nat.le_of_ble_eq_true rfl, Nat.le_of_ble_eq_true rfl⟩ (Nat.le_of_ble_eq_true rfl) ⟨Nat.le_refl _, Nat.le_refl _⟩ dX7_looksAt_31 ?_
      refine j_if_eq C0 74 dX7_looksAt_34 (by decide) (fun (q21 : (vX7_isFree F G (((G 9) (a1).toNatClampNeg))) = 0) => ?_) (fun (q21 : ¬ ((vX7_isFree F G (((G 9) (a1).toNatClampNeg))) = 0)) => ?_)
      ·
        refine j_iconst C0 (v := 0) dX7_looksAt_74 (by decide) ?_
        refine j_istore_n C0 (L' := [(0, .ref (ad 0)), (1, .int (a1)), (2, .int ((vX7_floats F G (a1) ((F 1))))), (3, .int ((0 : Int32)))]) dX7_looksAt_75 (by decide) rfl ?_
        refine j_iload_n C0 dX7_looksAt_76 rfl ?_
        refine j_if_ne C0 101 dX7_looksAt_77 (by decide) (fun _ => ?_) (fun z => absurd z q1)
        refine j_iload_n C0 dX7_looksAt_101 rfl ?_
        refine j_if_eq C0 113 dX7_looksAt_102 (by decide) (fun _ => ?_) (fun z => absurd (by decide) z)
        refine j_aload_n C0 dX7_looksAt_113 rfl ?_
        refine r_gf_1 C0 (v := (F 1)) dX7_looksAt_114 rfl ?_
        refine j_aload_n C0 dX7_looksAt_117 rfl ?_
        refine r_gf_11 C0 dX7_looksAt_118 ?_
        refine j_iload_n C0 dX7_looksAt_121 rfl ?_
        refine r_ld_11 C0 (v := ((G 11) (a1).toNatClampNeg)) hs1 dX7_looksAt_122 rfl ?_
        refine j_isub C0 dX7_looksAt_123 ?_
        refine j_iconst C0 (v := 3) dX7_looksAt_124 (by decide) ?_
        refine j_icmp_lt C0 145 dX7_looksAt_125 (by decide) (fun (q24 : ((F 1) - ((G 11) (a1).toNatClampNeg)) < (3 : Int32)) => ?_) (fun (q24 : ¬ (((F 1) - ((G 11) (a1).toNatClampNeg)) < (3 : Int32))) => ?_)
        ·
          exact j_vret C0 rfl dX7_looksAt_145 (fun H h => by rw [sX7_looksAt, if_neg q1, if_neg q6, if_pos q21, if_pos q24]; exact h)
        ·
          refine j_aload_n C0 dX7_looksAt_128 rfl ?_
          refine r_gf_15 C0 dX7_looksAt_129 ?_
          refine j_iload_n C0 dX7_looksAt_132 rfl ?_
          refine j_dup2 C0 dX7_looksAt_133 rfl rfl ?_
          refine r_ld_15 C0 (v := ((G 15) (a1).toNatClampNeg)) hs1 dX7_looksAt_134 rfl ?_
          refine j_iconst C0 (v := 1) dX7_looksAt_135 (by decide) ?_
          refine j_iadd C0 dX7_looksAt_136 ?_
          refine r_st_15 C0 hs1 dX7_looksAt_137 ?_
          refine j_aload_n C0 dX7_looksAt_138 rfl ?_
          refine r_gf_11 C0 dX7_looksAt_139 ?_
          refine j_iload_n C0 dX7_looksAt_142 rfl ?_
          refine j_iconst C0 (v := -1) dX7_looksAt_143 (by decide) ?_
          refine r_st_11 C0 hs1 dX7_looksAt_144 ?_
          exact j_vret C0 rfl dX7_looksAt_145 (fun H h => by rw [sX7_looksAt, if_neg q1, if_neg q6, if_pos q21, if_neg q24]; exact h)
      ·
        refine j_aload_n C0 dX7_looksAt_37 rfl ?_
        refine r_gf_20 C0 (v := (F 20)) dX7_looksAt_38 rfl ?_
        refine j_bipush C0 (v := 100) dX7_looksAt_41 (by decide) ?_
        refine j_icmp_ge C0 74 dX7_looksAt_43 (by decide) (fun (q25 : (100 : Int32) ≤ (F 20)) => ?_) (fun (q25 : ¬ ((100 : Int32) ≤ (F 20))) => ?_)
        ·
          refine j_iconst C0 (v := 0) dX7_looksAt_74 (by decide) ?_
          refine j_istore_n C0 (L' := [(0, .ref (ad 0)), (1, .int (a1)), (2, .int ((vX7_floats F G (a1) ((F 1))))), (3, .int ((0 : Int32)))]) dX7_looksAt_75 (by decide) rfl ?_
          refine j_iload_n C0 dX7_looksAt_76 rfl ?_
          refine j_if_ne C0 101 dX7_looksAt_77 (by decide) (fun _ => ?_) (fun z => absurd z q1)
          refine j_iload_n C0 dX7_looksAt_101 rfl ?_
          refine j_if_eq C0 113 dX7_looksAt_102 (by decide) (fun _ => ?_) (fun z => absurd (by decide) z)
          refine j_aload_n C0 dX7_looksAt_113 rfl ?_
          refine r_gf_1 C0 (v := (F 1)) dX7_looksAt_114 rfl ?_
          refine j_aload_n C0 dX7_looksAt_117 rfl ?_
          refine r_gf_11 C0 dX7_looksAt_118 ?_
          refine j_iload_n C0 dX7_looksAt_121 rfl ?_
          refine r_ld_11 C0 (v := ((G 11) (a1).toNatClampNeg)) hs1 dX7_looksAt_122 rfl ?_
          refine j_isub C0 dX7_looksAt_123 ?_
          refine j_iconst C0 (v := 3) dX7_looksAt_124 (by decide) ?_
          refine j_icmp_lt C0 145 dX7_looksAt_125 (by decide) (fun (q28 : ((F 1) - ((G 11) (a1).toNatClampNeg)) < (3 : Int32)) => ?_) (fun (q28 : ¬ (((F 1) - ((G 11) (a1).toNatClampNeg)) < (3 : Int32))) => ?_)
          ·
            exact j_vret C0 rfl dX7_looksAt_145 (fun H h => by rw [sX7_looksAt, if_neg q1, if_neg q6, if_neg q21, if_pos q25, if_pos q28]; exact h)
          ·
            refine j_aload_n C0 dX7_looksAt_128 rfl ?_
            refine r_gf_15 C0 dX7_looksAt_129 ?_
            refine j_iload_n C0 dX7_looksAt_132 rfl ?_
            refine j_dup2 C0 dX7_looksAt_133 rfl rfl ?_
            refine r_ld_15 C0 (v := ((G 15) (a1).toNatClampNeg)) hs1 dX7_looksAt_134 rfl ?_
            refine j_iconst C0 (v := 1) dX7_looksAt_135 (by decide) ?_
            refine j_iadd C0 dX7_looksAt_136 ?_
            refine r_st_15 C0 hs1 dX7_looksAt_137 ?_
            refine j_aload_n C0 dX7_looksAt_138 rfl ?_
            refine r_gf_11 C0 dX7_looksAt_139 ?_
            refine j_iload_n C0 dX7_looksAt_142 rfl ?_
            refine j_iconst C0 (v := -1) dX7_looksAt_143 (by decide) ?_
            refine r_st_11 C0 hs1 dX7_looksAt_144 ?_
            exact j_vret C0 rfl dX7_looksAt_145 (fun H h => by rw [sX7_looksAt, if_neg q1, if_neg q6, if_neg q21, if_pos q25, if_neg q28]; exact h)
        ·
          refine j_aload_n C0 dX7_looksAt_46 rfl ?_
          refine j_callVv C0 (k_X7_firstReady hl ad F G  hm) mv_X7_firstReady wm_X7_129 (r_recv C0) rfl rfl ⟨Nat.le_of_ble_eq_true rfl, Nat.le_of_ble_eq_true rfl⟩ (Nat.le_of_ble_eq_true rfl) ⟨Nat.le_refl _, Nat.le_refl _⟩ dX7_looksAt_47 ?_
          refine j_iconst C0 (v := -1) dX7_looksAt_50 (by decide) ?_
          refine j_icmp_eq C0 74 dX7_looksAt_51 (by decide) (fun (q29 : (vX7_firstReady F G) = (-1 : Int32)) => ?_) (fun (q29 : ¬ ((vX7_firstReady F G) = (-1 : Int32))) => ?_)
          ·
            refine j_iconst C0 (v := 0) dX7_looksAt_74 (by decide) ?_
            refine j_istore_n C0 (L' := [(0, .ref (ad 0)), (1, .int (a1)), (2, .int ((vX7_floats F G (a1) ((F 1))))), (3, .int ((0 : Int32)))]) dX7_looksAt_75 (by decide) rfl ?_
            refine j_iload_n C0 dX7_looksAt_76 rfl ?_
            refine j_if_ne C0 101 dX7_looksAt_77 (by decide) (fun _ => ?_) (fun z => absurd z q1)
            refine j_iload_n C0 dX7_looksAt_101 rfl ?_
            refine j_if_eq C0 113 dX7_looksAt_102 (by decide) (fun _ => ?_) (fun z => absurd (by decide) z)
            refine j_aload_n C0 dX7_looksAt_113 rfl ?_
            refine r_gf_1 C0 (v := (F 1)) dX7_looksAt_114 rfl ?_
            refine j_aload_n C0 dX7_looksAt_117 rfl ?_
            refine r_gf_11 C0 dX7_looksAt_118 ?_
            refine j_iload_n C0 dX7_looksAt_121 rfl ?_
            refine r_ld_11 C0 (v := ((G 11) (a1).toNatClampNeg)) hs1 dX7_looksAt_122 rfl ?_
            refine j_isub C0 dX7_looksAt_123 ?_
            refine j_iconst C0 (v := 3) dX7_looksAt_124 (by decide) ?_
            refine j_icmp_lt C0 145 dX7_looksAt_125 (by decide) (fun (q32 : ((F 1) - ((G 11) (a1).toNatClampNeg)) < (3 : Int32)) => ?_) (fun (q32 : ¬ (((F 1) - ((G 11) (a1).toNatClampNeg)) < (3 : Int32))) => ?_)
            ·
              exact j_vret C0 rfl dX7_looksAt_145 (fun H h => by rw [sX7_looksAt, if_neg q1, if_neg q6, if_neg q21, if_neg q25, if_pos q29, if_pos q32]; exact h)
            ·
              refine j_aload_n C0 dX7_looksAt_128 rfl ?_
              refine r_gf_15 C0 dX7_looksAt_129 ?_
              refine j_iload_n C0 dX7_looksAt_132 rfl ?_
              refine j_dup2 C0 dX7_looksAt_133 rfl rfl ?_
              refine r_ld_15 C0 (v := ((G 15) (a1).toNatClampNeg)) hs1 dX7_looksAt_134 rfl ?_
              refine j_iconst C0 (v := 1) dX7_looksAt_135 (by decide) ?_
              refine j_iadd C0 dX7_looksAt_136 ?_
              refine r_st_15 C0 hs1 dX7_looksAt_137 ?_
              refine j_aload_n C0 dX7_looksAt_138 rfl ?_
              refine r_gf_11 C0 dX7_looksAt_139 ?_
              refine j_iload_n C0 dX7_looksAt_142 rfl ?_
              refine j_iconst C0 (v := -1) dX7_looksAt_143 (by decide) ?_
              refine r_st_11 C0 hs1 dX7_looksAt_144 ?_
              exact j_vret C0 rfl dX7_looksAt_145 (fun H h => by rw [sX7_looksAt, if_neg q1, if_neg q6, if_neg q21, if_neg q25, if_pos q29, if_neg q32]; exact h)
          ·
            refine j_aload_n C0 dX7_looksAt_54 rfl ?_
            refine j_callVv C0 (k_X7_tugsNow hl ad F G  hm) mv_X7_tugsNow wm_X7_122 (r_recv C0) rfl rfl ⟨Nat.le_of_ble_eq_true rfl, Nat.le_of_ble_eq_true rfl⟩ (Nat.le_of_ble_eq_true rfl) ⟨Nat.le_refl _, Nat.le_refl _⟩ dX7_looksAt_55 ?_
            refine j_callSv C0 (k_X7_many hl ((vX7_tugsNow F G)) ) ms_X7_many wm_X7_145 rfl rfl ⟨Nat.le_of_ble_eq_true rfl, Nat.le_of_ble_eq_true rfl⟩ (Nat.le_of_ble_eq_true rfl) ⟨Nat.le_refl _, Nat.le_refl _⟩ dX7_looksAt_58 ?_
            refine j_aload_n C0 dX7_looksAt_61 rfl ?_
            refine r_gf_6 C0 dX7_looksAt_62 ?_
            refine j_iload_n C0 dX7_looksAt_65 rfl ?_
            refine r_ld_6 C0 (v := ((G 6) (a1).toNatClampNeg)) hs1 dX7_looksAt_66 rfl ?_
            refine j_icmp_lt C0 74 dX7_looksAt_67 (by decide) (fun (q33 : (vX7_many ((vX7_tugsNow F G))) < ((G 6) (a1).toNatClampNeg)) => ?_) (fun (q33 : ¬ ((vX7_many ((vX7_tugsNow F G))) < ((G 6) (a1).toNatClampNeg))) => ?_)
            ·
              refine j_iconst C0 (v := 0) dX7_looksAt_74 (by decide) ?_
              refine j_istore_n C0 (L' := [(0, .ref (ad 0)), (1, .int (a1)), (2, .int ((vX7_floats F G (a1) ((F 1))))), (3, .int ((0 : Int32)))]) dX7_looksAt_75 (by decide) rfl ?_
              refine j_iload_n C0 dX7_looksAt_76 rfl ?_
              refine j_if_ne C0 101 dX7_looksAt_77 (by decide) (fun _ => ?_) (fun z => absurd z q1)
              refine j_iload_n C0 dX7_looksAt_101 rfl ?_
              refine j_if_eq C0 113 dX7_looksAt_102 (by decide) (fun _ => ?_) (fun z => absurd (by decide) z)
              refine j_aload_n C0 dX7_looksAt_113 rfl ?_
              refine r_gf_1 C0 (v := (F 1)) dX7_looksAt_114 rfl ?_
              refine j_aload_n C0 dX7_looksAt_117 rfl ?_
              refine r_gf_11 C0 dX7_looksAt_118 ?_
              refine j_iload_n C0 dX7_looksAt_121 rfl ?_
              refine r_ld_11 C0 (v := ((G 11) (a1).toNatClampNeg)) hs1 dX7_looksAt_122 rfl ?_
              refine j_isub C0 dX7_looksAt_123 ?_
              refine j_iconst C0 (v := 3) dX7_looksAt_124 (by decide) ?_
              refine j_icmp_lt C0 145 dX7_looksAt_125 (by decide) (fun (q36 : ((F 1) - ((G 11) (a1).toNatClampNeg)) < (3 : Int32)) => ?_) (fun (q36 : ¬ (((F 1) - ((G 11) (a1).toNatClampNeg)) < (3 : Int32))) => ?_)
              ·
                exact j_vret C0 rfl dX7_looksAt_145 (fun H h => by rw [sX7_looksAt, if_neg q1, if_neg q6, if_neg q21, if_neg q25, if_neg q29, if_pos q33, if_pos q36]; exact h)
              ·
                refine j_aload_n C0 dX7_looksAt_128 rfl ?_
                refine r_gf_15 C0 dX7_looksAt_129 ?_
                refine j_iload_n C0 dX7_looksAt_132 rfl ?_
                refine j_dup2 C0 dX7_looksAt_133 rfl rfl ?_
                refine r_ld_15 C0 (v := ((G 15) (a1).toNatClampNeg)) hs1 dX7_looksAt_134 rfl ?_
                refine j_iconst C0 (v := 1) dX7_looksAt_135 (by decide) ?_
                refine j_iadd C0 dX7_looksAt_136 ?_
                refine r_st_15 C0 hs1 dX7_looksAt_137 ?_
                refine j_aload_n C0 dX7_looksAt_138 rfl ?_
                refine r_gf_11 C0 dX7_looksAt_139 ?_
                refine j_iload_n C0 dX7_looksAt_142 rfl ?_
                refine j_iconst C0 (v := -1) dX7_looksAt_143 (by decide) ?_
                refine r_st_11 C0 hs1 dX7_looksAt_144 ?_
                exact j_vret C0 rfl dX7_looksAt_145 (fun H h => by rw [sX7_looksAt, if_neg q1, if_neg q6, if_neg q21, if_neg q25, if_neg q29, if_pos q33, if_neg q36]; exact h)
            ·
              refine j_iconst C0 (v := 1) dX7_looksAt_70 (by decide) ?_
              refine j_goto C0 75 dX7_looksAt_71 (by decide) ?_
              refine j_istore_n C0 (L' := [(0, .ref (ad 0)), (1, .int (a1)), (2, .int ((vX7_floats F G (a1) ((F 1))))), (3, .int ((1 : Int32)))]) dX7_looksAt_75 (by decide) rfl ?_
              refine j_iload_n C0 dX7_looksAt_76 rfl ?_
              refine j_if_ne C0 101 dX7_looksAt_77 (by decide) (fun _ => ?_) (fun z => absurd z q1)
              refine j_iload_n C0 dX7_looksAt_101 rfl ?_
              refine j_if_eq C0 113 dX7_looksAt_102 (by decide) (fun z => absurd z (by decide)) (fun _ => ?_)
              refine j_aload_n C0 dX7_looksAt_105 rfl ?_
              refine j_iload_n C0 dX7_looksAt_106 rfl ?_
              refine j_callVn C0 (k_X7_begins hl ad F G (a1) hI hs1 (firstReady_in F G q29) (cnt_lt hm q25)) mv_X7_begins wm_X7_152 (r_recv C0) rfl rfl ⟨Nat.le_of_ble_eq_true rfl, Nat.le_of_ble_eq_true rfl⟩ (Nat.le_of_ble_eq_true rfl) ⟨Nat.le_refl _, Nat.le_refl _⟩ dX7_looksAt_107 ?_
              show J p l e _ s m args below meth c A 4 _ (OV D Y A ad ((sX7_begins F G (a1)).1 0) ((sX7_begins F G (a1)).1 1) ((sX7_begins F G (a1)).1 5) ((sX7_begins F G (a1)).1 18) ((sX7_begins F G (a1)).1 19) ((sX7_begins F G (a1)).1 20) ((sX7_begins F G (a1)).2 2) ((sX7_begins F G (a1)).2 3) ((sX7_begins F G (a1)).2 4) ((sX7_begins F G (a1)).2 6) ((sX7_begins F G (a1)).2 7) ((sX7_begins F G (a1)).2 8) ((sX7_begins F G (a1)).2 9) ((sX7_begins F G (a1)).2 10) ((sX7_begins F G (a1)).2 11) ((sX7_begins F G (a1)).2 12) ((sX7_begins F G (a1)).2 13) ((sX7_begins F G (a1)).2 14) ((sX7_begins F G (a1)).2 15) ((sX7_begins F G (a1)).2 16) ((sX7_begins F G (a1)).2 17) ((sX7_begins F G (a1)).2 21) ((sX7_begins F G (a1)).2 22) ((sX7_begins F G (a1)).2 23) ((sX7_begins F G (a1)).2 24) ((sX7_begins F G (a1)).2 25)) 0 0 110 [(0, .ref (ad 0)), (1, .int (a1)), (2, .int ((vX7_floats F G (a1) ((F 1))))), (3, .int ((1 : Int32)))] []
              refine j_goto C0 145 dX7_looksAt_110 (by decide) ?_
              exact j_vret C0 rfl dX7_looksAt_145 (fun H h => by rw [sX7_looksAt, if_neg q1, if_neg q6, if_neg q21, if_neg q25, if_neg q29, if_neg q33]; exact h)
