/-! ## CONSTRUCTORS -/
theorem up_up {α : Type} (f : Nat → α) (k : Nat) (x y : α) : va_up (va_up f k x) k y = va_up f k y := by
  funext n
  by_cases e : n = k
  · rw [e, up_same, up_same]
  · rw [up_ne _ _ e, up_ne _ _ e, up_ne _ _ e]
theorem k_Jxa1e45_init_da8c8 {l : Launch} (hsl : l.stackTraces = false) {D : va_G} {Y : Nat → ClassId} {A : Nat → Prop} {E : State → Prop} {Ω : Heap → Prop} {a : Nat} : KM l yJxa1e45_init_da8c8 cJxa1e45_init_da8c8 1 none D Y A E 1 30 0 0 [.ref a] Ω none Ω := by
  refine KM_of RJxa1e45 [(0, .ref a)] rfl (by decide) hsl (Nat.le_of_ble_eq_true rfl) rfl (lok_of rfl rfl) ?_
  intro p e s m args below meth c C0
  refine j_aload_n C0 dJxa1e45_init_da8c8_0 rfl ?_
  refine j_oinit C0 wo_Jxa1e45 (Nat.le_of_ble_eq_true rfl) (Nat.le_of_ble_eq_true rfl) dJxa1e45_init_da8c8_1 ?_
  exact j_vret C0 rfl dJxa1e45_init_da8c8_4 (fun H h => h)
theorem k_Jxc12de_init_da8c8 {l : Launch} (hsl : l.stackTraces = false) {D : va_G} {Y : Nat → ClassId} {A : Nat → Prop} {E : State → Prop} {cel : NMs} {nm a : Nat} {v1 v2 : Value} (he : cel nm = some (a, .inr (2, [.int 0, v1, v2]))) : KM l yJxc12de_init_da8c8 cJxc12de_init_da8c8 1 none D Y A E 2 60 0 0 [.ref a] (NW D A cel) none (NW D A (va_up cel nm (some (a, .inr (2, [.int 0, v1, v2]))))) := by
  refine KM_of RJxc12de [(0, .ref a)] rfl (by decide) hsl (Nat.le_of_ble_eq_true rfl) rfl (lok_of rfl rfl) ?_
  intro p e s m args below meth c C0
  refine j_aload_n C0 dJxc12de_init_da8c8_0 rfl ?_
  refine j_callIn C0 (k_Jxa1e45_init_da8c8 hsl) mi_Jxa1e45_init_da8c8 wm_Jxc12de_1 rfl rfl ⟨Nat.le_of_ble_eq_true rfl, Nat.le_of_ble_eq_true rfl⟩ (Nat.le_of_ble_eq_true rfl) ⟨Nat.le_refl _, Nat.le_refl _⟩ dJxc12de_init_da8c8_1 ?_
  refine j_aload_n C0 dJxc12de_init_da8c8_4 rfl ?_
  refine j_iconst C0 (v := 0) dJxc12de_init_da8c8_5 (by decide) ?_
  refine n_put C0 in_Jx4a65c tyJx4a65c tyJx4a65c_ok nmJx4a65c (ci := 2) rfl nm he 0 (by decide) wf_Jxc12de_7 rfl (tyJx4a65c_ok 0 (by decide)) rfl rfl (show 0 < 3 from by decide) dJxc12de_init_da8c8_6 ?_
  exact j_vret C0 rfl dJxc12de_init_da8c8_9 (fun H h => h)
theorem k_Jx4a65c_init_da8c8 {l : Launch} (hsl : l.stackTraces = false) {D : va_G} {Y : Nat → ClassId} {A : Nat → Prop} {E : State → Prop} {tE mi : Nat} (hE : ∀ U, E U → EC A tE mi U) {cel : NMs} {nm a : Nat} {v1 v2 : Value} (he : cel nm = some (a, .inr (2, [.int 0, v1, v2]))) : KM l yJx4a65c_init_da8c8 cJx4a65c_init_da8c8 1 none D Y A E 3 90 0 0 [.ref a] (NW D A cel) none (NW D A (va_up cel nm (some (a, .inr (2, [.int 0, .ref tE, v2]))))) := by
  refine KM_of RJx4a65c [(0, .ref a)] rfl (by decide) hsl (Nat.le_of_ble_eq_true rfl) rfl (lok_of rfl rfl) ?_
  intro p e s m args below meth c C0
  refine j_aload_n C0 dJx4a65c_init_da8c8_0 rfl ?_
  refine j_callIn C0 (k_Jxc12de_init_da8c8 hsl he) mi_Jxc12de_init_da8c8 wm_Jx4a65c_1 rfl rfl ⟨Nat.le_of_ble_eq_true rfl, Nat.le_of_ble_eq_true rfl⟩ (Nat.le_of_ble_eq_true rfl) ⟨Nat.le_refl _, Nat.le_refl _⟩ dJx4a65c_init_da8c8_1 ?_
  refine j_aload_n C0 dJx4a65c_init_da8c8_4 rfl ?_
  refine j_getsE C0 hE wf_Jx4a65c_39 dJx4a65c_init_da8c8_5 ?_
  refine n_put C0 in_Jx4a65c tyJx4a65c tyJx4a65c_ok nmJx4a65c (ci := 2) rfl nm (up_same _ _ _) 1 (by decide) wf_Jx4a65c_9 rfl (tyJx4a65c_ok 1 (by decide)) rfl rfl (show 1 < 3 from by decide) dJx4a65c_init_da8c8_8 ?_
  exact j_vret C0 rfl dJx4a65c_init_da8c8_11 (fun H h => by rw [up_up] at h; exact h)
