/-! ## CONSTRUCTORS -/
theorem up_up {α : Type} (f : Nat → α) (k : Nat) (x y : α) : va_up (va_up f k x) k y = va_up f k y := by
  funext n
  by_cases e : n = k
  · rw [e, up_same, up_same]
  · rw [up_ne _ _ e, up_ne _ _ e, up_ne _ _ e]
theorem k_Jxa1e45_init_da8c8 {l : Launch} (hsl : l.stackTraces = false) {D : va_G} {Y : Nat → ClassId} {A : Nat → Prop} {E : State → Prop} {Ω : Heap → Prop} {a : Nat} : KM l yJxa1e45_init_da8c8 cJxa1e45_init_da8c8 1 none D Y A E 1 30 0 0 [.ref a] Ω none Ω := by
  refine KM_of RJxa1e45 [(0, .ref a)] rfl (by decide) hsl (Nat.le_of_ble_eq_true rfl) rfl (lok_of rfl rfl) ?_
  intro p e s m args below meth c C0
  refine j_aload_n C0 dJxa1e45_init_da8c8_0 rfl ?_
  refine j_oinit C0 wo_Jxa1e45 (Nat.le_of_ble_eq_true rfl) (Nat.le_of_ble_eq_true rfl) dJxa1e45_init_da8c8_1 ?_
  exact j_vret C0 rfl dJxa1e45_init_da8c8_4 (fun H h => h)
theorem k_Jxc12de_init_da8c8 {l : Launch} (hsl : l.stackTraces = false) {D : va_G} {Y : Nat → ClassId} {A : Nat → Prop} {E : State → Prop} {cel : NMs} {nm a : Nat} {v1 v2 : Value} (he : cel nm = some (a, .inr (2, [.int 0, v1, v2]))) : KM l yJxc12de_init_da8c8 cJxc12de_init_da8c8 1 none D Y A E 2 60 0 0 [.ref a] (NW D A cel) none (NW D A (va_up cel nm (some (a, .inr (2, [.int 0, v1, v2]))))) := by
  refine KM_of RJxc12de [(0, .ref a)] rfl (by decide) hsl (Nat.le_of_ble_eq_true rfl) rfl (lok_of rfl rfl) ?_
  intro p e s m args below meth c C0
  refine j_aload_n C0 dJxc12de_init_da8c8_0 rfl ?_
  refine j_callIn C0 (k_Jxa1e45_init_da8c8 hsl) mi_Jxa1e45_init_da8c8 wm_Jxc12de_1 rfl rfl ⟨Nat.le_of_ble_eq_true rfl, Nat.le_of_ble_eq_true rfl⟩ (Nat.le_of_ble_eq_true rfl) ⟨Nat.le_refl _, Nat.le_refl _⟩ dJxc12de_init_da8c8_1 ?_
  refine j_aload_n C0 dJxc12de_init_da8c8_4 rfl ?_
  refine j_iconst C0 (v := 0) dJxc12de_init_da8c8_5 (by decide) ?_
  refine n_put C0 in_Jx4a65c tyJx4a65c tyJx4a65c_ok nmJx4a65c (ci := 2) rfl nm he 0 (by decide) wf_Jxc12de_7 rfl (tyJx4a65c_ok 0 (by decide)) rfl rfl (show 0 < 3 from by decide) dJxc12de_init_da8c8_6 ?_
  exact j_vret C0 rfl dJxc12de_init_da8c8_9 (fun H h => h)
theorem k_Jx4a65c_init_da8c8 {l : Launch} (hsl : l.stackTraces = false) {D : va_G} {Y : Nat → ClassId} {A : Nat → Prop} {E : State → Prop} {tE mi : Nat} (hE : ∀ U, E U → EC A tE mi U) {cel : NMs} {nm a : Nat} {v1 v2 : Value} (he : cel nm = some (a, .inr (2, [.int 0, v1, v2]))) : KM l yJx4a65c_init_da8c8 cJx4a65c_init_da8c8 1 none D Y A E 3 90 0 0 [.ref a] (NW D A cel) none (NW D A (va_up cel nm (some (a, .inr (2, [.int 0, .ref tE, v2]))))) := by
  refine KM_of RJx4a65c [(0, .ref a)] rfl (by decide) hsl (Nat.le_of_ble_eq_true rfl) rfl (lok_of rfl rfl) ?_
  intro p e s m args below meth c C0
  refine j_aload_n C0 dJx4a65c_init_da8c8_0 rfl ?_
  refine j_callIn C0 (k_Jxc12de_init_da8c8 hsl he) mi_Jxc12de_init_da8c8 wm_Jx4a65c_1 rfl rfl ⟨Nat.le_of_ble_eq_true rfl, Nat.le_of_ble_eq_true rfl⟩ (Nat.le_of_ble_eq_true rfl) ⟨Nat.le_refl _, Nat.le_refl _⟩ dJx4a65c_init_da8c8_1 ?_
  refine j_aload_n C0 dJx4a65c_init_da8c8_4 rfl ?_
  refine j_getsE C0 hE wf_Jx4a65c_39 dJx4a65c_init_da8c8_5 ?_
  refine n_put C0 in_Jx4a65c tyJx4a65c tyJx4a65c_ok nmJx4a65c (ci := 2) rfl nm (up_same _ _ _) 1 (by decide) wf_Jx4a65c_9 rfl (tyJx4a65c_ok 1 (by decide)) rfl rfl (show 1 < 3 from by decide) dJx4a65c_init_da8c8_8 ?_
  exact j_vret C0 rfl dJx4a65c_init_da8c8_11 (fun H h => by rw [up_up] at h; exact h)
theorem up_id {α : Type} {f : Nat → α} {k : Nat} {x : α} (h : f k = x) : va_up f k x = f := by
  funext n
  by_cases e : n = k
  · rw [e, up_same, h]
  · rw [up_ne _ _ e]
theorem k_J7_fill_53178 {l : Launch} (hsl : l.stackTraces = false) {D : va_G} {Y : Nat → ClassId} {A : Nat → Prop} {E : State → Prop} {cel : NMs} {nm a n : Nat} {f : Nat → Int32} {x : Int32} (he : cel nm = some (a, .inl (Y 0, n, .inl f))) (hn : n < 2 ^ 31) : KM l yJ7_fill_53178 cJ7_fill_53178 4 none D Y A E 0 0 0 0 [.ref a, .int x] (NW D A cel) none (NW D A (va_up cel nm (some (a, .inl (Y 0, n, .inl (nf (fun j v => upd v j x) f n)))))) := by
  refine KM_of RJ7 [(0, .ref a), (1, .int x)] rfl (by decide) hsl (Nat.le_of_ble_eq_true rfl) rfl (lok_of rfl rfl) ?_
  intro p e s m args below meth c C0
  refine j_iconst C0 (v := 0) dJ7_fill_53178_0 (by decide) ?_
  refine j_istore_n C0 (L' := [(0, .ref a), (1, .int x), (2, .int 0)]) dJ7_fill_53178_1 (by decide) rfl ?_
  refine j_aload_n C0 dJ7_fill_53178_2 rfl ?_
  refine n_alen C0 nm 0 he rfl (v := nI n) rfl dJ7_fill_53178_3 ?_
  refine j_istore_n C0 (L' := [(0, .ref a), (1, .int x), (2, .int 0), (3, .int (nI n))]) dJ7_fill_53178_4 (by decide) rfl ?_
  refine j_world (Ω' := NW D A (va_up cel nm (some (a, .inl (Y 0, n, .inl f))))) (fun H h => by rw [up_id he]; exact h) ?_
  refine j_castL (L' := [(0, .ref a), (1, .int x), (2, .int (nI 0)), (3, .int (nI n))]) (by rw [nI_0]) ?_
  refine hb_lp (P := fun (j : Nat) (v : Nat → Int32) => J p l e _ s m args below meth c A 4 _ (NW D A (va_up cel nm (some (a, .inl (Y 0, n, .inl v))))) 0 0 5 [(0, .ref a), (1, .int x), (2, .int (nI j)), (3, .int (nI n))] []) (fun j v => upd v j x) f n ?_ ?_
  · intro j hj K
    generalize nf (fun j v => upd v j x) f j = v at K ⊢
    refine j_iload_n C0 dJ7_fill_53178_5 rfl ?_
    refine j_iload_n C0 dJ7_fill_53178_6 rfl ?_
    refine j_icmp_ge C0 20 dJ7_fill_53178_7 (by decide) (fun z => absurd z (nI_ge hj hn)) (fun _ => ?_)
    refine j_aload_n C0 dJ7_fill_53178_10 rfl ?_
    refine j_iload_n C0 dJ7_fill_53178_11 rfl ?_
    refine j_iload_n C0 dJ7_fill_53178_12 rfl ?_
    refine n_iast C0 nm (up_same _ _ _) (vp_in_nI hj hn) dJ7_fill_53178_13 ?_
    rw [up_up, nI_clamp (by omega)]
    refine j_iinc C0 (v := nI (j + 1)) (L' := [(0, .ref a), (1, .int x), (2, .int (nI (j + 1))), (3, .int (nI n))]) dJ7_fill_53178_14 rfl (nI_inc j) (by decide) rfl ?_
    refine j_goto C0 5 dJ7_fill_53178_17 (by decide) ?_
    exact K
  · refine j_iload_n C0 dJ7_fill_53178_5 rfl ?_
    refine j_iload_n C0 dJ7_fill_53178_6 rfl ?_
    refine j_icmp_ge C0 20 dJ7_fill_53178_7 (by decide) (fun _ => ?_) (fun z => absurd (nI_le (Nat.le_refl _) hn) z)
    exact j_vret C0 rfl dJ7_fill_53178_20 (fun H h => h)
/-- the new rota -/
def rotaI : Nat → Int32 := nf (fun j v => upd v j (nI j)) (fun _ => 0) 6
theorem k_X3_init {l : Launch} (hsl : l.stackTraces = false) {D : va_G} {Y : Nat → ClassId} {A : Nat → Prop} {E : State → Prop} {cel : NMs} {nm n1 n2 a : Nat} {v0 v1 : Value} (h1 : n1 ≠ nm) (h2 : n2 ≠ nm) (h12 : n1 ≠ n2) (he : cel nm = some (a, .inr (6, [v0, v1]))) : KE l yX3_init cX3_init 2 none D Y A E 2 60 2 12 [.ref a] (NW D A cel) (fun rv H => ∃ q1 q2 : Nat, rv = none ∧ NW D A (va_up (va_up (va_up cel n1 (some (q1, .inl (Y 0, 6, .inl rotaI)))) n2 (some (q2, .inl (Y 0, 6, .inl (fun _ => 0))))) nm (some (a, .inr (6, [.ref q1, .ref q2])))) H) := by
  refine KM_ofI RX3 [(0, .ref a)] rfl (by decide) rfl hsl (Nat.le_of_ble_eq_true rfl) rfl (lok_of rfl rfl) ?_
  intro p e s m args below meth c C0 hmn
  refine j_aload_n C0 dX3_init_0 rfl ?_
  refine j_oinit C0 wo_X3 (Nat.le_of_ble_eq_true rfl) (Nat.le_of_ble_eq_true rfl) dX3_init_1 ?_
  refine j_aload_n C0 dX3_init_4 rfl ?_
  refine j_bipush C0 (v := 6) dX3_init_5 (by decide) ?_
  refine n_newI C0 n1 w_arI (by decide) (show (6 : Int32).toNatClampNeg = 6 by decide +kernel) (by decide) (Nat.le_of_ble_eq_true rfl) (Nat.le_of_ble_eq_true rfl) dX3_init_7 (fun q1 => ?_)
  refine n_putF C0 in_X3 tyX3 tyX3_ok nmX3 (ci := 6) rfl nm ((up_ne _ _ (Ne.symm h1)).trans he) 0 (by decide) wf_X3_9 rfl hmn rfl (tyX3_ok 0 (by decide)) rfl rfl (show 0 < 2 from by decide) dX3_init_9 ?_
  refine j_aload_n C0 dX3_init_12 rfl ?_
  refine j_bipush C0 (v := 6) dX3_init_13 (by decide) ?_
  refine n_newI C0 n2 w_arI (by decide) (show (6 : Int32).toNatClampNeg = 6 by decide +kernel) (by decide) (Nat.le_of_ble_eq_true rfl) (Nat.le_of_ble_eq_true rfl) dX3_init_15 (fun q2 => ?_)
  refine n_putF C0 in_X3 tyX3 tyX3_ok nmX3 (ci := 6) rfl nm ((up_ne _ _ (Ne.symm h2)).trans (up_same _ _ _)) 1 (by decide) wf_X3_15 rfl hmn rfl (tyX3_ok 1 (by decide)) rfl rfl (show 1 < 2 from by decide) dX3_init_17 ?_
  refine j_world (Ω' := NW D A (va_up (va_up (va_up cel n1 (some (q1, .inl (Y 0, 6, .inl (fun _ => 0))))) n2 (some (q2, .inl (Y 0, 6, .inl (fun _ => 0))))) nm (some (a, .inr (6, [.ref q1, .ref q2]))))) (NW.sub (fun n x hx => ?_)) ?_
  · by_cases e1 : n = nm
    · rw [e1, up_same] at hx ⊢
      exact hx
    · rw [up_ne _ _ e1] at hx ⊢
      by_cases e2 : n = n2
      · rw [e2, up_same] at hx ⊢
        exact hx
      · rw [up_ne _ _ e2] at hx ⊢
        rw [up_ne _ _ e1]
        exact hx
  refine j_iconst C0 (v := 0) dX3_init_20 (by decide) ?_
  refine j_istore_n C0 (L' := [(0, .ref a), (1, .int 0)]) dX3_init_21 (by decide) rfl ?_
  refine j_castL (L' := [(0, .ref a), (1, .int (nI 0))]) (by rw [nI_0]) ?_
  refine hb_lp (P := fun (j : Nat) (v : Nat → Int32) => J p l e _ s m args below meth c A 2 _ (NW D A (va_up (va_up (va_up cel n1 (some (q1, .inl (Y 0, 6, .inl v)))) n2 (some (q2, .inl (Y 0, 6, .inl (fun _ => 0))))) nm (some (a, .inr (6, [.ref q1, .ref q2]))))) (0 + 1 + 1) (0 + 6 + 6) 22 [(0, .ref a), (1, .int (nI j))] []) (fun j v => upd v j (nI j)) (fun _ => 0) 6 ?_ ?_
  · intro j hj K
    generalize nf (fun j v => upd v j (nI j)) (fun _ => 0) j = v at K ⊢
    refine j_iload_n C0 dX3_init_22 rfl ?_
    refine j_bipush C0 (v := 6) dX3_init_23 (by decide) ?_
    refine j_icmp_ge C0 41 dX3_init_25 (by decide) (fun z => absurd z (nI_ge hj (by decide))) (fun _ => ?_)
    refine j_aload_n C0 dX3_init_28 rfl ?_
    refine n_get C0 in_X3 (ci := 6) rfl nm (up_same _ _ _) 0 (by decide) wf_X3_9 rfl dX3_init_29 ?_
    refine j_iload_n C0 dX3_init_32 rfl ?_
    refine j_iload_n C0 dX3_init_33 rfl ?_
    refine n_iast C0 n1 ((up_ne _ _ h1).trans ((up_ne _ _ h12).trans (up_same _ _ _))) (vp_in_nI hj (by decide)) dX3_init_34 ?_
    rw [nI_clamp (by omega)]
    refine j_world (Ω' := NW D A (va_up (va_up (va_up cel n1 (some (q1, .inl (Y 0, 6, .inl (upd v j (nI j)))))) n2 (some (q2, .inl (Y 0, 6, .inl (fun _ => 0))))) nm (some (a, .inr (6, [.ref q1, .ref q2]))))) (NW.sub (fun n x hx => ?_)) ?_
    · by_cases e1 : n = n1
      · rw [e1, up_ne _ _ h1, up_ne _ _ h12, up_same] at hx
        rw [e1, up_same]
        exact hx
      · rw [up_ne _ _ e1]
        by_cases e2 : n = nm
        · rw [e2, up_same] at hx ⊢
          exact hx
        · rw [up_ne _ _ e2] at hx ⊢
          by_cases e3 : n = n2
          · rw [e3, up_same] at hx ⊢
            exact hx
          · rw [up_ne _ _ e3, up_ne _ _ e1] at hx ⊢
            exact hx
    refine j_iinc C0 (v := nI (j + 1)) (L' := [(0, .ref a), (1, .int (nI (j + 1)))]) dX3_init_35 rfl (nI_inc j) (by decide) rfl ?_
    refine j_goto C0 22 dX3_init_38 (by decide) ?_
    exact K
  · refine j_iload_n C0 dX3_init_22 rfl ?_
    refine j_bipush C0 (v := 6) dX3_init_23 (by decide) ?_
    refine j_icmp_ge C0 41 dX3_init_25 (by decide) (fun _ => ?_) (fun z => absurd (nI_le (Nat.le_refl 6) (by decide)) z)
    exact j_eret (j_vret C0 rfl dX3_init_41 (fun H h => h)) (fun H h => ⟨q1, q2, rfl, h⟩)
def fillI (n : Nat) (x : Int32) : Nat → Int32 := nf (fun j v => upd v j x) (fun _ => 0) n
theorem k_X5_init {l : Launch} (hsl : l.stackTraces = false) {D : va_G} {Y : Nat → ClassId} {A : Nat → Prop} {E : State → Prop} {cel : NMs} {nm n1 n2 n3 a : Nat} {v0 v1 v2 : Value} (h1 : n1 ≠ nm) (h2 : n2 ≠ nm) (h3 : n3 ≠ nm) (h12 : n1 ≠ n2) (h13 : n1 ≠ n3) (h23 : n2 ≠ n3) (he : cel nm = some (a, .inr (8, [v0, v1, v2]))) : KE l yX5_init cX5_init 1 none D Y A E 2 60 3 3119 [.ref a] (NW D A cel) (fun rv H => ∃ q1 q2 q3 : Nat, rv = none ∧ NW D A (va_up (va_up (va_up (va_up cel n1 (some (q1, .inl (Y 0, 12, .inl (fillI 12 50))))) n2 (some (q2, .inl (Y 0, 3101, .inl (fun _ => 0))))) n3 (some (q3, .inl (Y 0, 6, .inl (fillI 6 60))))) nm (some (a, .inr (8, [.ref q1, .ref q2, .ref q3])))) H) := by
  refine KM_ofI RX5 [(0, .ref a)] rfl (by decide) rfl hsl (Nat.le_of_ble_eq_true rfl) rfl (lok_of rfl rfl) ?_
  intro p e s m args below meth c C0 hmn
  refine j_aload_n C0 dX5_init_0 rfl ?_
  refine j_oinit C0 wo_X5 (Nat.le_of_ble_eq_true rfl) (Nat.le_of_ble_eq_true rfl) dX5_init_1 ?_
  refine j_aload_n C0 dX5_init_4 rfl ?_
  refine j_bipush C0 (v := 12) dX5_init_5 (by decide) ?_
  refine n_newI C0 n1 w_arI (by decide) (show (12 : Int32).toNatClampNeg = 12 by decide +kernel) (by decide) (Nat.le_of_ble_eq_true rfl) (Nat.le_of_ble_eq_true rfl) dX5_init_7 (fun q1 => ?_)
  refine n_putF C0 in_X5 tyX5 tyX5_ok nmX5 (ci := 8) rfl nm ((up_ne _ _ (Ne.symm h1)).trans he) 0 (by decide) wf_X5_9 rfl hmn rfl (tyX5_ok 0 (by decide)) rfl rfl (show 0 < 3 from by decide) dX5_init_9 ?_
  refine j_aload_n C0 dX5_init_12 rfl ?_
  refine j_sipush C0 (v := 3101) dX5_init_13 (by decide) ?_
  refine n_newI C0 n2 w_arI (by decide) (show (3101 : Int32).toNatClampNeg = 3101 by decide +kernel) (by decide) (Nat.le_of_ble_eq_true rfl) (Nat.le_of_ble_eq_true rfl) dX5_init_16 (fun q2 => ?_)
  refine n_putF C0 in_X5 tyX5 tyX5_ok nmX5 (ci := 8) rfl nm ((up_ne _ _ (Ne.symm h2)).trans (up_same _ _ _)) 1 (by decide) wf_X5_15 rfl hmn rfl (tyX5_ok 1 (by decide)) rfl rfl (show 1 < 3 from by decide) dX5_init_18 ?_
  refine j_aload_n C0 dX5_init_21 rfl ?_
  refine j_bipush C0 (v := 6) dX5_init_22 (by decide) ?_
  refine n_newI C0 n3 w_arI (by decide) (show (6 : Int32).toNatClampNeg = 6 by decide +kernel) (by decide) (Nat.le_of_ble_eq_true rfl) (Nat.le_of_ble_eq_true rfl) dX5_init_24 (fun q3 => ?_)
  refine n_putF C0 in_X5 tyX5 tyX5_ok nmX5 (ci := 8) rfl nm ((up_ne _ _ (Ne.symm h3)).trans (up_same _ _ _)) 2 (by decide) wf_X5_18 rfl hmn rfl (tyX5_ok 2 (by decide)) rfl rfl (show 2 < 3 from by decide) dX5_init_26 ?_
  refine j_nm (fun cel1 e1 f1 => ?_)
  have k1 : cel1 n1 = some (q1, .inl (Y 0, 12, .inl (fun _ => 0))) := (f1 n1 h1).trans ((up_ne _ _ h13).trans ((up_ne _ _ h1).trans ((up_ne _ _ h12).trans ((up_ne _ _ h1).trans (up_same _ _ _)))))
  have k2 : cel1 n2 = some (q2, .inl (Y 0, 3101, .inl (fun _ => 0))) := (f1 n2 h2).trans ((up_ne _ _ h23).trans ((up_ne _ _ h2).trans (up_same _ _ _)))
  have k3 : cel1 n3 = some (q3, .inl (Y 0, 6, .inl (fun _ => 0))) := (f1 n3 h3).trans (up_same _ _ _)
  have k4 : ∀ n, n ≠ nm → n ≠ n1 → n ≠ n2 → n ≠ n3 → cel1 n = cel n := fun n g g1 g2 g3 => (f1 n g).trans ((up_ne _ _ g3).trans ((up_ne _ _ g).trans ((up_ne _ _ g2).trans ((up_ne _ _ g).trans (up_ne _ _ g1)))))
  replace e1 : cel1 nm = some (a, .inr (8, [.ref q1, .ref q2, .ref q3])) := e1
  refine j_aload_n C0 dX5_init_29 rfl ?_
  refine n_get C0 in_X5 (ci := 8) rfl nm e1 0 (by decide) wf_X5_9 rfl dX5_init_30 ?_
  refine j_bipush C0 (v := 50) dX5_init_33 (by decide) ?_
  refine j_callSn C0 (k_J7_fill_53178 hsl k1 (by decide)) ms_J7_fill_53178 wm_X5_21 rfl rfl ⟨Nat.le_of_ble_eq_true rfl, Nat.le_of_ble_eq_true rfl⟩ (Nat.le_of_ble_eq_true rfl) ⟨Nat.le_of_ble_eq_true rfl, Nat.le_of_ble_eq_true rfl⟩ dX5_init_35 ?_
  refine j_nm (fun cel2 e2 f2 => ?_)
  refine j_aload_n C0 dX5_init_38 rfl ?_
  refine n_get C0 in_X5 (ci := 8) rfl nm ((f2 nm (Ne.symm h1)).trans e1) 2 (by decide) wf_X5_18 rfl dX5_init_39 ?_
  refine j_bipush C0 (v := 60) dX5_init_42 (by decide) ?_
  refine j_callSn C0 (k_J7_fill_53178 hsl ((f2 n3 (Ne.symm h13)).trans k3) (by decide)) ms_J7_fill_53178 wm_X5_21 rfl rfl ⟨Nat.le_of_ble_eq_true rfl, Nat.le_of_ble_eq_true rfl⟩ (Nat.le_of_ble_eq_true rfl) ⟨Nat.le_of_ble_eq_true rfl, Nat.le_of_ble_eq_true rfl⟩ dX5_init_44 ?_
  refine j_nm (fun cel3 e3 f3 => ?_)
  refine j_eret (Ω' := NW D A cel3) (j_vret C0 rfl dX5_init_47 (fun H h => h)) (fun H h => ⟨q1, q2, q3, rfl, NW.sub (fun n x hx => ?_) H h⟩)
  by_cases g : n = nm
  · rw [g, up_same] at hx
    rw [g, f3 nm (Ne.symm h3), f2 nm (Ne.symm h1), e1]
    exact hx
  · rw [up_ne _ _ g] at hx
    by_cases g3 : n = n3
    · rw [g3, up_same] at hx
      rw [g3, e3]
      exact hx
    · rw [up_ne _ _ g3] at hx
      rw [f3 n g3]
      by_cases g2 : n = n2
      · rw [g2, up_same] at hx
        rw [g2, f2 n2 (Ne.symm h12), k2]
        exact hx
      · rw [up_ne _ _ g2] at hx
        by_cases g1 : n = n1
        · rw [g1, up_same] at hx
          rw [g1, e2]
          exact hx
        · rw [up_ne _ _ g1] at hx
          rw [f2 n g1, k4 n g g1 g2 g3]
          exact hx
theorem wi_Jx4a65c : Cond.instantiable RJx4a65c 3 ∈ TB := TB_in (tb1 (List.mem_of_getElem? (i := 76) rfl)) rfl
theorem wn_Jx4a65c : Cond.initialized RJx4a65c ∈ TB := TB_in (tb1 (List.mem_of_getElem? (i := 8) rfl)) rfl
theorem k_X0_init {l : Launch} (hsl : l.stackTraces = false) {D : va_G} {Y : Nat → ClassId} {A : Nat → Prop} {E : State → Prop} {tE mi : Nat} (hE : ∀ U, E U → EC A tE mi U) {cel : NMs} {nm n1 a : Nat} {v0 : Value} (h1 : n1 ≠ nm) (he : cel nm = some (a, .inr (3, [v0]))) : KE l yX0_init cX0_init 1 none D Y A E 4 120 1 3 [.ref a] (NW D A cel) (fun rv H => ∃ q1 : Nat, rv = none ∧ NW D A (va_up (va_up cel n1 (some (q1, LC 0 tE 0))) nm (some (a, .inr (3, [.ref q1])))) H) := by
  refine KM_ofI RX0 [(0, .ref a)] rfl (by decide) rfl hsl (Nat.le_of_ble_eq_true rfl) rfl (lok_of rfl rfl) ?_
  intro p e s m args below meth c C0 hmn
  refine j_aload_n C0 dX0_init_0 rfl ?_
  refine j_oinit C0 wo_X0 (Nat.le_of_ble_eq_true rfl) (Nat.le_of_ble_eq_true rfl) dX0_init_1 ?_
  refine j_aload_n C0 dX0_init_4 rfl ?_
  refine n_new C0 n1 in_Jx4a65c tyJx4a65c tyJx4a65c_ok wc_X0_9 wi_Jx4a65c wn_Jx4a65c (ci := 2) rfl (fs := [.int 0, .null, .int 0]) (fun j hj => by rcases j with _ | _ | _ | j <;> first | rfl | omega) (Nat.le_of_ble_eq_true rfl) (Nat.le_of_ble_eq_true rfl) dX0_init_5 (fun q1 => ?_)
  refine j_dup C0 dX0_init_8 rfl ?_
  refine j_callIn C0 (k_Jx4a65c_init_da8c8 hsl hE (nm := n1) (up_same _ _ _)) mi_Jx4a65c_init_da8c8 wm_X0_11 rfl rfl ⟨Nat.le_of_ble_eq_true rfl, Nat.le_of_ble_eq_true rfl⟩ (Nat.le_of_ble_eq_true rfl) ⟨Nat.le_of_ble_eq_true rfl, Nat.le_of_ble_eq_true rfl⟩ dX0_init_9 ?_
  rw [up_up]
  refine n_putF C0 in_X0 tyX0 tyX0_ok nmX0 (ci := 3) rfl nm ((up_ne _ _ (Ne.symm h1)).trans he) 0 (by decide) wf_X0_12 rfl hmn rfl (tyX0_ok 0 (by decide)) rfl rfl (show 0 < 1 from by decide) dX0_init_12 ?_
  exact j_eret (j_vret C0 rfl dX0_init_15 (fun H h => h)) (fun H h => ⟨q1, rfl, h⟩)
theorem k_X2_init {l : Launch} (hsl : l.stackTraces = false) {D : va_G} {Y : Nat → ClassId} {A : Nat → Prop} {E : State → Prop} {tE mi : Nat} (hE : ∀ U, E U → EC A tE mi U) {cel : NMs} {nm n1 a : Nat} {v0 : Value} (h1 : n1 ≠ nm) (he : cel nm = some (a, .inr (5, [v0]))) : KE l yX2_init cX2_init 1 none D Y A E 4 120 1 3 [.ref a] (NW D A cel) (fun rv H => ∃ q1 : Nat, rv = none ∧ NW D A (va_up (va_up cel n1 (some (q1, LC 0 tE 0))) nm (some (a, .inr (5, [.ref q1])))) H) := by
  refine KM_ofI RX2 [(0, .ref a)] rfl (by decide) rfl hsl (Nat.le_of_ble_eq_true rfl) rfl (lok_of rfl rfl) ?_
  intro p e s m args below meth c C0 hmn
  refine j_aload_n C0 dX2_init_0 rfl ?_
  refine j_oinit C0 wo_X2 (Nat.le_of_ble_eq_true rfl) (Nat.le_of_ble_eq_true rfl) dX2_init_1 ?_
  refine j_aload_n C0 dX2_init_4 rfl ?_
  refine n_new C0 n1 in_Jx4a65c tyJx4a65c tyJx4a65c_ok wc_X2_9 wi_Jx4a65c wn_Jx4a65c (ci := 2) rfl (fs := [.int 0, .null, .int 0]) (fun j hj => by rcases j with _ | _ | _ | j <;> first | rfl | omega) (Nat.le_of_ble_eq_true rfl) (Nat.le_of_ble_eq_true rfl) dX2_init_5 (fun q1 => ?_)
  refine j_dup C0 dX2_init_8 rfl ?_
  refine j_callIn C0 (k_Jx4a65c_init_da8c8 hsl hE (nm := n1) (up_same _ _ _)) mi_Jx4a65c_init_da8c8 wm_X2_11 rfl rfl ⟨Nat.le_of_ble_eq_true rfl, Nat.le_of_ble_eq_true rfl⟩ (Nat.le_of_ble_eq_true rfl) ⟨Nat.le_of_ble_eq_true rfl, Nat.le_of_ble_eq_true rfl⟩ dX2_init_9 ?_
  rw [up_up]
  refine n_putF C0 in_X2 tyX2 tyX2_ok nmX2 (ci := 5) rfl nm ((up_ne _ _ (Ne.symm h1)).trans he) 0 (by decide) wf_X2_12 rfl hmn rfl (tyX2_ok 0 (by decide)) rfl rfl (show 0 < 1 from by decide) dX2_init_12 ?_
  exact j_eret (j_vret C0 rfl dX2_init_15 (fun H h => h)) (fun H h => ⟨q1, rfl, h⟩)
theorem wx_X6_25 : Cond.methodLinkNest RX6 25 yX0_init "HarborTides" ∈ XB := XB_in (tb1 (List.mem_of_getElem? (i := 71) rfl)) rfl
theorem wx_X6_39 : Cond.methodLinkNest RX6 39 yX2_init "HarborTides" ∈ XB := XB_in (tb1 (List.mem_of_getElem? (i := 109) rfl)) rfl
theorem wi2_X0 : Cond.instantiable RX0 1 ∈ TB := TB_in (tb1 (List.mem_of_getElem? (i := 70) rfl)) rfl
theorem wn2_X0 : Cond.initialized RX0 ∈ TB := TB_in (tb1 (List.mem_of_getElem? (i := 5) rfl)) rfl
theorem wi2_X1 : Cond.instantiable RX1 5 ∈ TB := TB_in (tb3 (List.mem_of_getElem? (i := 161) rfl)) rfl
theorem wn2_X1 : Cond.initialized RX1 ∈ TB := TB_in (tb1 (List.mem_of_getElem? (i := 22) rfl)) rfl
theorem wi2_X2 : Cond.instantiable RX2 1 ∈ TB := TB_in (tb1 (List.mem_of_getElem? (i := 108) rfl)) rfl
theorem wn2_X2 : Cond.initialized RX2 ∈ TB := TB_in (tb1 (List.mem_of_getElem? (i := 9) rfl)) rfl
theorem wi2_X3 : Cond.instantiable RX3 2 ∈ TB := TB_in (tb1 (List.mem_of_getElem? (i := 55) rfl)) rfl
theorem wn2_X3 : Cond.initialized RX3 ∈ TB := TB_in (tb1 (List.mem_of_getElem? (i := 4) rfl)) rfl
theorem wi2_X4 : Cond.instantiable RX4 11 ∈ TB := TB_in (tb2 (List.mem_of_getElem? (i := 78) rfl)) rfl
theorem wn2_X4 : Cond.initialized RX4 ∈ TB := TB_in (tb1 (List.mem_of_getElem? (i := 19) rfl)) rfl
theorem wi2_X5 : Cond.instantiable RX5 3 ∈ TB := TB_in (tb1 (List.mem_of_getElem? (i := 32) rfl)) rfl
theorem wn2_X5 : Cond.initialized RX5 ∈ TB := TB_in (tb1 (List.mem_of_getElem? (i := 2) rfl)) rfl
theorem j_callINE {p : Program} {l : Launch} {e : Env} {R : Room} {s : State} {m : MethodId} {args : Array Value} {below : List Frame} {meth : Method} {c : Code} {Q : State → Prop} {Ω : Heap → Prop} {Ψ : Option Value → Heap → Prop} {cells slots pc nL : Nat} {L : List (Nat × Value)} {rest stk : List Value} {own host : String} {cc bytes : ByteArray} {ret : Option FieldType} {D : va_G} {Y : Nat → ClassId} {A : Nat → Prop} {E : State → Prop} {y : MethodName} {mL fr lo mc ms n idx b tE mi : Nat} (C0 : CX p l s m args meth c own cc nL ret D Y A E) (hE : ∀ U, E U → EC A tE mi U) {As : List Value} (hM : KE l y bytes mL none D Y A E fr lo mc ms (.ref b :: As) Ω Ψ) (hw : MI y bytes mL n) (hl : Cond.methodLinkNest own idx y host ∈ XB) (hn : As.length = n) (hst : stk = As.reverse ++ .ref b :: rest) (hR : fr + 1 ≤ R.frames ∧ 8 + (mL + 11) + lo ≤ R.locals) (hc : (rest.map fun v => v.category).sum ≤ 8) (hf : cells + mc ≤ R.cells ∧ slots + ms ≤ R.slots) (d : decode cc pc = .ok (.invokespecial idx, 3)) (kk : ∀ rv, J p l e R s m args below meth c A nL Q (Ψ rv) (cells + mc) (slots + ms) (pc + 3) L (rv.toList ++ rest)) : J p l e R s m args below meth c A nL Q Ω cells slots pc L stk := by
  intro H locs ls h1 h2 h3 h4
  subst hst
  exact hb_callE (a := (.ref b :: As).toArray) (va_runIN (As := As) (rest := rest) (host := host) ⟨C0.1, C0.2.1, C0.2.2.1, C0.2.2.2.1, C0.2.2.2.2.1⟩ hM ⟨va_cnB n C0.2.2.2.2.1 hw.good rfl rfl rfl ((hE s C0.2.2.2.2.2.2.2.1.2.2.1).2.2.2.2.1 _ hl) (C0.2.2.2.2.1 _ hw.2.1) hw.2.2.2.2 hR, hw.2.2.2.1, C0.2.2.2.2.1 _ hw.1⟩ ⟨KM.blind (l := l), fun U hU hW => ⟨rfl, C0.pre h2 hU hW, by rw [hU]; exact h1⟩⟩ rfl hn h3.1 rfl (lv_room hc) d hf) h2 (fun rv H1 locs1 k1 k2 => kk rv H1 locs1 ls k1 k2 h3 h4)
