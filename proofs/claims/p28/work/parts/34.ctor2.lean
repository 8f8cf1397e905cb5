set_option maxRecDepth 100000 in
set_option maxHeartbeats 4000000 in
theorem k_X6_init {l : Launch} (hsl : l.stackTraces = false) {D : va_G} {Y : Nat → ClassId} {A : Nat → Prop} {E : State → Prop} {tE mi : Nat} (hE : ∀ U, E U → EC A tE mi U) {a : Nat} : KE l yX6_init cX6_init 1 none D Y A E 8 300 12 3147 [.ref a] (NW D A (va_up (fun _ => none) 0 (some (a, .inr (9, [.null, .null, .null, .null, .null, .int 0, .int 0, .int 0]))))) (fun rv H => rv = none ∧ ∃ ad : Nat → Nat, ad 0 = a ∧ CO D Y A tE ad 0 0 0 (fillI 12 50) (fun _ => 0) (fillI 6 60) rotaI (fun _ => 0) (fun _ => 0) (fun _ => 0) (fun _ => 0) (fun _ => 0) (fun _ => 0) (fun _ => 0) (fun _ => 0) (fun _ => 0) (fun _ => 0) (fun _ => 0) (fun _ => 0) (fun _ => 0) (fun _ => 0) (fun _ => 0) (fun _ => 0) 0 0 0 (fun _ => 0) (fun _ => 0) (fun _ => 0) (fun _ => 0) H) := by
  refine KM_ofI RX6 [(0, .ref a)] rfl (by decide) rfl hsl (Nat.le_of_ble_eq_true rfl) rfl (lok_of rfl rfl) ?_
  intro p e s m args below meth c C0 hmn
  refine j_aload_n C0 dX6_init_0 rfl ?_
  refine j_oinit C0 wo_X6 (Nat.le_of_ble_eq_true rfl) (Nat.le_of_ble_eq_true rfl) dX6_init_1 ?_
  refine j_aload_n C0 dX6_init_4 rfl ?_
  refine n_new C0 1 in_X5 tyX5 tyX5_ok wc_X6_7 wi2_X5 wn2_X5 (ci := 8) rfl (fs := [.null, .null, .null]) (fun j hj => by rcases j with _ | _ | _ | j <;> first | rfl | omega) (Nat.le_of_ble_eq_true rfl) (Nat.le_of_ble_eq_true rfl) dX6_init_5 (fun q1 => ?_)
  refine j_dup C0 dX6_init_8 rfl ?_
  refine j_callIE C0 (k_X5_init hsl (nm := 1) (n1 := 6) (n2 := 7) (n3 := 8) (by decide) (by decide) (by decide) (by decide) (by decide) (by decide) rfl) mi_X5_init wm_X6_9 rfl rfl ⟨(Nat.le_of_ble_eq_true rfl), (Nat.le_of_ble_eq_true rfl)⟩ (Nat.le_of_ble_eq_true rfl) ⟨(Nat.le_of_ble_eq_true rfl), (Nat.le_of_ble_eq_true rfl)⟩ dX6_init_9 (fun rv => ?_)
  refine j_ex (fun qa => j_ex (fun qb => j_ex (fun qc => j_and (fun hr => ?_))))
  subst hr
  refine n_putF C0 in_X6 tyX6 tyX6_ok nmX6 (ci := 9) rfl 0 (fs := [.null, .null, .null, .null, .null, .int 0, .int 0, .int 0]) rfl 0 (by decide) wf_X6_10 rfl hmn rfl (tyX6_ok 0 (by decide)) rfl rfl (show 0 < 8 from by decide) dX6_init_12 ?_
  refine j_aload_n C0 dX6_init_15 rfl ?_
  refine n_new C0 2 in_X3 tyX3 tyX3_ok wc_X6_16 wi2_X3 wn2_X3 (ci := 6) rfl (fs := [.null, .null]) (fun j hj => by rcases j with _ | _ | j <;> first | rfl | omega) (Nat.le_of_ble_eq_true rfl) (Nat.le_of_ble_eq_true rfl) dX6_init_16 (fun q2 => ?_)
  refine j_dup C0 dX6_init_19 rfl ?_
  refine j_callIE C0 (k_X3_init hsl (nm := 2) (n1 := 9) (n2 := 10) (by decide) (by decide) (by decide) rfl) mi_X3_init wm_X6_18 rfl rfl ⟨(Nat.le_of_ble_eq_true rfl), (Nat.le_of_ble_eq_true rfl)⟩ (Nat.le_of_ble_eq_true rfl) ⟨(Nat.le_of_ble_eq_true rfl), (Nat.le_of_ble_eq_true rfl)⟩ dX6_init_20 (fun rv => ?_)
  refine j_ex (fun qd => j_ex (fun qe => j_and (fun hr => ?_)))
  subst hr
  refine n_putF C0 in_X6 tyX6 tyX6_ok nmX6 (ci := 9) rfl 0 (fs := [.ref q1, .null, .null, .null, .null, .int 0, .int 0, .int 0]) rfl 1 (by decide) wf_X6_19 rfl hmn rfl (tyX6_ok 1 (by decide)) rfl rfl (show 1 < 8 from by decide) dX6_init_23 ?_
  refine j_aload_n C0 dX6_init_26 rfl ?_
  refine n_new C0 3 in_X0 tyX0 tyX0_ok wc_X6_23 wi2_X0 wn2_X0 (ci := 3) rfl (fs := [.null]) (fun j hj => by rcases j with _ | j <;> first | rfl | omega) (Nat.le_of_ble_eq_true rfl) (Nat.le_of_ble_eq_true rfl) dX6_init_27 (fun q3 => ?_)
  refine j_dup C0 dX6_init_30 rfl ?_
  refine j_callINE C0 hE (k_X0_init hsl hE (nm := 3) (n1 := 12) (by decide) rfl) mi_X0_init wx_X6_25 rfl rfl ⟨(Nat.le_of_ble_eq_true rfl), (Nat.le_of_ble_eq_true rfl)⟩ (Nat.le_of_ble_eq_true rfl) ⟨(Nat.le_of_ble_eq_true rfl), (Nat.le_of_ble_eq_true rfl)⟩ dX6_init_31 (fun rv => ?_)
  refine j_ex (fun qf => j_and (fun hr => ?_))
  subst hr
  refine n_putF C0 in_X6 tyX6 tyX6_ok nmX6 (ci := 9) rfl 0 (fs := [.ref q1, .ref q2, .null, .null, .null, .int 0, .int 0, .int 0]) rfl 2 (by decide) wf_X6_26 rfl hmn rfl (tyX6_ok 2 (by decide)) rfl rfl (show 2 < 8 from by decide) dX6_init_34 ?_
  refine j_aload_n C0 dX6_init_37 rfl ?_
  refine n_new C0 4 in_Jx4a65c tyJx4a65c tyJx4a65c_ok wc_X6_30 wi_Jx4a65c wn_Jx4a65c (ci := 2) rfl (fs := [.int 0, .null, .int 0]) (fun j hj => by rcases j with _ | _ | _ | j <;> first | rfl | omega) (Nat.le_of_ble_eq_true rfl) (Nat.le_of_ble_eq_true rfl) dX6_init_38 (fun q4 => ?_)
  refine j_dup C0 dX6_init_41 rfl ?_
  refine j_callIn C0 (k_Jx4a65c_init_da8c8 hsl hE (nm := 4) rfl) mi_Jx4a65c_init_da8c8 wm_X6_32 rfl rfl ⟨(Nat.le_of_ble_eq_true rfl), (Nat.le_of_ble_eq_true rfl)⟩ (Nat.le_of_ble_eq_true rfl) ⟨(Nat.le_of_ble_eq_true rfl), (Nat.le_of_ble_eq_true rfl)⟩ dX6_init_42 ?_
  refine n_putF C0 in_X6 tyX6 tyX6_ok nmX6 (ci := 9) rfl 0 (fs := [.ref q1, .ref q2, .ref q3, .null, .null, .int 0, .int 0, .int 0]) rfl 3 (by decide) wf_X6_33 rfl hmn rfl (tyX6_ok 3 (by decide)) rfl rfl (show 3 < 8 from by decide) dX6_init_45 ?_
  refine j_aload_n C0 dX6_init_48 rfl ?_
  refine n_new C0 5 in_X2 tyX2 tyX2_ok wc_X6_37 wi2_X2 wn2_X2 (ci := 5) rfl (fs := [.null]) (fun j hj => by rcases j with _ | j <;> first | rfl | omega) (Nat.le_of_ble_eq_true rfl) (Nat.le_of_ble_eq_true rfl) dX6_init_49 (fun q5 => ?_)
  refine j_dup C0 dX6_init_52 rfl ?_
  refine j_callINE C0 hE (k_X2_init hsl hE (nm := 5) (n1 := 14) (by decide) rfl) mi_X2_init wx_X6_39 rfl rfl ⟨(Nat.le_of_ble_eq_true rfl), (Nat.le_of_ble_eq_true rfl)⟩ (Nat.le_of_ble_eq_true rfl) ⟨(Nat.le_of_ble_eq_true rfl), (Nat.le_of_ble_eq_true rfl)⟩ dX6_init_53 (fun rv => ?_)
  refine j_ex (fun qg => j_and (fun hr => ?_))
  subst hr
  refine n_putF C0 in_X6 tyX6 tyX6_ok nmX6 (ci := 9) rfl 0 (fs := [.ref q1, .ref q2, .ref q3, .ref q4, .null, .int 0, .int 0, .int 0]) rfl 4 (by decide) wf_X6_40 rfl hmn rfl (tyX6_ok 4 (by decide)) rfl rfl (show 4 < 8 from by decide) dX6_init_56 ?_
  refine j_aload_n C0 dX6_init_59 rfl ?_
  refine j_iconst C0 (v := 0) dX6_init_60 (by decide) ?_
  refine n_put C0 in_X6 tyX6 tyX6_ok nmX6 (ci := 9) rfl 0 (fs := [.ref q1, .ref q2, .ref q3, .ref q4, .ref q5, .int 0, .int 0, .int 0]) rfl 5 (by decide) wf_X6_44 rfl (tyX6_ok 5 (by decide)) rfl rfl (show 5 < 8 from by decide) dX6_init_61 ?_
  refine j_aload_n C0 dX6_init_64 rfl ?_
  refine j_iconst C0 (v := 0) dX6_init_65 (by decide) ?_
  refine n_put C0 in_X6 tyX6 tyX6_ok nmX6 (ci := 9) rfl 0 (fs := [.ref q1, .ref q2, .ref q3, .ref q4, .ref q5, .int 0, .int 0, .int 0]) rfl 6 (by decide) wf_X6_48 rfl (tyX6_ok 6 (by decide)) rfl rfl (show 6 < 8 from by decide) dX6_init_66 ?_
  refine j_aload_n C0 dX6_init_69 rfl ?_
  refine j_iconst C0 (v := 0) dX6_init_70 (by decide) ?_
  refine n_put C0 in_X6 tyX6 tyX6_ok nmX6 (ci := 9) rfl 0 (fs := [.ref q1, .ref q2, .ref q3, .ref q4, .ref q5, .int 0, .int 0, .int 0]) rfl 7 (by decide) wf_X6_51 rfl (tyX6_ok 7 (by decide)) rfl rfl (show 7 < 8 from by decide) dX6_init_71 ?_
  exact j_eret (j_vret C0 rfl dX6_init_74 (fun H h => h)) (fun H h => ⟨rfl, (va_up (va_up (va_up (va_up (va_up (va_up (va_up (va_up (va_up (va_up (va_up (va_up (va_up (fun _ => 0) 0 a) 1 q1) 2 q2) 3 q3) 4 q4) 5 q5) 6 qa) 7 qb) 8 qc) 9 qd) 10 qe) 12 qf) 14 qg), rfl, _, ⟨rfl, rfl, rfl, rfl, rfl, rfl, rfl, rfl, rfl, rfl, rfl, ⟨0, tE, rfl, Or.inl ⟨rfl, rfl⟩⟩, ⟨0, tE, rfl, Or.inl ⟨rfl, rfl⟩⟩, ⟨0, tE, rfl, Or.inl ⟨rfl, rfl⟩⟩, fun i hi => absurd hi (Nat.not_lt_zero _), fun i hi => absurd hi (Nat.not_lt_zero _), by decide, by decide, by decide, fun i hi => absurd hi (Nat.not_lt_zero _), fun i hi => absurd hi (Nat.not_lt_zero _)⟩, h⟩)
