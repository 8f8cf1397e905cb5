theorem NW.ow {D : va_G} {A : Nat → Prop} {cel : NMs} {H : Heap} (h : NW D A cel H) {ws : va_W} (ns : List Nat) (hn : va_nd ns = true) (he : ws.map some = ns.map cel) : Ow D A ws H := by
  obtain ⟨W, pos, hk, hP, hD⟩ := h
  have key : ∀ (k : Nat) (q : Nat × va_E), ws[k]? = some q → ∃ n, ns[k]? = some n ∧ cel n = some q := by
    intro k q hq
    have h1 : (ws.map some)[k]? = some (some q) := by rw [List.getElem?_map, hq]; rfl
    rw [he, List.getElem?_map] at h1
    cases hz : ns[k]? with
    | none => rw [hz] at h1; cases h1
    | some n => rw [hz] at h1; exact ⟨n, rfl, Option.some.inj h1⟩
  refine ⟨fun k q hq => ?_, fun i j p q hp hq e => ?_, fun k q hq => ?_⟩
  · obtain ⟨n, -, h2⟩ := key k q hq
    exact hP _ q (hk.1 n q h2)
  · obtain ⟨n, h1, h2⟩ := key i p hp
    obtain ⟨n', h3, h4⟩ := key j q hq
    have e1 : n = n' := hk.2 n n' p q h2 h4 (hD.1 _ _ p q (hk.1 n p h2) (hk.1 n' q h4) e)
    subst e1
    exact va_nd_inj ns hn i j n h1 h3
  · obtain ⟨n, -, h2⟩ := key k q hq
    exact hD.2 _ q (hk.1 n q h2)
def bX7_init_167 (F : Nat → Int32) (G : Nat → Nat → Int32) (j167 : Nat) (v167 : (Nat → Int32)) : (Nat → Int32) := ((upd v167 (nI j167).toNatClampNeg ((50 : Int32))))
def bX7_init_189 (F : Nat → Int32) (G : Nat → Nat → Int32) (j189 : Nat) (v189 : (Nat → Int32) × (Nat → Int32)) : (Nat → Int32) × (Nat → Int32) := match v189 with | (v189_0, v189_1) => ((upd v189_0 (nI j189).toNatClampNeg ((60 : Int32))), (upd v189_1 (nI j189).toNatClampNeg (nI j189)))
def G0X7 : Nat → Nat → Int32 := (hu (hu (hu (fun _ _ => (0 : Int32)) 2 (nf (bX7_init_167 (fun _ => (0 : Int32)) (fun _ _ => (0 : Int32))) (((fun _ _ => (0 : Int32)) 2)) (12))) 4 (nf (bX7_init_189 (fun _ => (0 : Int32)) (fun _ _ => (0 : Int32))) (((fun _ _ => (0 : Int32)) 4), ((fun _ _ => (0 : Int32)) 16)) (6)).1) 16 (nf (bX7_init_189 (fun _ => (0 : Int32)) (fun _ _ => (0 : Int32))) (((fun _ _ => (0 : Int32)) 4), ((fun _ _ => (0 : Int32)) 16)) (6)).2)
set_option maxRecDepth 100000 in
set_option maxHeartbeats 4000000 in
theorem k_X7_init {l : Launch} (hsl : l.stackTraces = false) {D : va_G} {Y : Nat → ClassId} {A : Nat → Prop} {E : State → Prop} {a : Nat} : KE l yX7_init cX7_init 2 none D Y A E 2 60 20 3990 [.ref a] (NW D A (va_up (fun _ => none) 0 (some (a, .inr (10, [.int 0, .int 0, .null, .null, .null, .int 0, .null, .null, .null, .null, .null, .null, .null, .null, .null, .null, .null, .null, .int 0, .int 0, .int 0, .null, .null, .null, .null, .null]))))) (fun rv H => rv = none ∧ ∃ ad : Nat → Nat, ad 0 = a ∧ OR D Y A ad (fun _ => 0) G0X7 H) := by
  refine KM_ofI RX7 [(0, .ref a)] rfl (by decide) rfl hsl (Nat.le_of_ble_eq_true rfl) rfl (lok_of rfl rfl) ?_
  intro p e s m args below meth c C0 hmn
  refine j_aload_n C0 dX7_init_0 rfl ?_
  refine j_oinit C0 wo_X7 (Nat.le_of_ble_eq_true rfl) (Nat.le_of_ble_eq_true rfl) dX7_init_1 ?_
  refine j_aload_n C0 dX7_init_4 rfl ?_
  refine j_bipush C0 (v := 12) dX7_init_5 (by decide) ?_
  refine n_newI C0 2 w_arI (by decide) (show (12 : Int32).toNatClampNeg = 12 by decide +kernel) (by decide) (Nat.le_of_ble_eq_true rfl) (Nat.le_of_ble_eq_true rfl) dX7_init_7 (fun q2 => ?_)
  refine n_putF C0 in_X7 tyX7 tyX7_ok nmX7 (ci := 10) rfl 0 (fs := [.int 0, .int 0, .null, .null, .null, .int 0, .null, .null, .null, .null, .null, .null, .null, .null, .null, .null, .null, .null, .int 0, .int 0, .int 0, .null, .null, .null, .null, .null]) rfl 2 (by decide) wf_X7_7 rfl hmn rfl (tyX7_ok 2 (by decide)) rfl rfl (show 2 < 26 from by decide) dX7_init_9 ?_
  refine j_aload_n C0 dX7_init_12 rfl ?_
  refine j_sipush C0 (v := 3160) dX7_init_13 (by decide) ?_
  refine n_newI C0 3 w_arI (by decide) (show (3160 : Int32).toNatClampNeg = 3160 by decide +kernel) (by decide) (Nat.le_of_ble_eq_true rfl) (Nat.le_of_ble_eq_true rfl) dX7_init_16 (fun q3 => ?_)
  refine n_putF C0 in_X7 tyX7 tyX7_ok nmX7 (ci := 10) rfl 0 (fs := [.int 0, .int 0, .ref q2, .null, .null, .int 0, .null, .null, .null, .null, .null, .null, .null, .null, .null, .null, .null, .null, .int 0, .int 0, .int 0, .null, .null, .null, .null, .null]) rfl 3 (by decide) wf_X7_13 rfl hmn rfl (tyX7_ok 3 (by decide)) rfl rfl (show 3 < 26 from by decide) dX7_init_18 ?_
  refine j_aload_n C0 dX7_init_21 rfl ?_
  refine j_bipush C0 (v := 6) dX7_init_22 (by decide) ?_
  refine n_newI C0 4 w_arI (by decide) (show (6 : Int32).toNatClampNeg = 6 by decide +kernel) (by decide) (Nat.le_of_ble_eq_true rfl) (Nat.le_of_ble_eq_true rfl) dX7_init_24 (fun q4 => ?_)
  refine n_putF C0 in_X7 tyX7 tyX7_ok nmX7 (ci := 10) rfl 0 (fs := [.int 0, .int 0, .ref q2, .ref q3, .null, .int 0, .null, .null, .null, .null, .null, .null, .null, .null, .null, .null, .null, .null, .int 0, .int 0, .int 0, .null, .null, .null, .null, .null]) rfl 4 (by decide) wf_X7_16 rfl hmn rfl (tyX7_ok 4 (by decide)) rfl rfl (show 4 < 26 from by decide) dX7_init_26 ?_
  refine j_aload_n C0 dX7_init_29 rfl ?_
  refine j_bipush C0 (v := 30) dX7_init_30 (by decide) ?_
  refine n_newI C0 6 w_arI (by decide) (show (30 : Int32).toNatClampNeg = 30 by decide +kernel) (by decide) (Nat.le_of_ble_eq_true rfl) (Nat.le_of_ble_eq_true rfl) dX7_init_32 (fun q6 => ?_)
  refine n_putF C0 in_X7 tyX7 tyX7_ok nmX7 (ci := 10) rfl 0 (fs := [.int 0, .int 0, .ref q2, .ref q3, .ref q4, .int 0, .null, .null, .null, .null, .null, .null, .null, .null, .null, .null, .null, .null, .int 0, .int 0, .int 0, .null, .null, .null, .null, .null]) rfl 6 (by decide) wf_X7_19 rfl hmn rfl (tyX7_ok 6 (by decide)) rfl rfl (show 6 < 26 from by decide) dX7_init_34 ?_
  refine j_aload_n C0 dX7_init_37 rfl ?_
  refine j_bipush C0 (v := 30) dX7_init_38 (by decide) ?_
  refine n_newI C0 7 w_arI (by decide) (show (30 : Int32).toNatClampNeg = 30 by decide +kernel) (by decide) (Nat.le_of_ble_eq_true rfl) (Nat.le_of_ble_eq_true rfl) dX7_init_40 (fun q7 => ?_)
  refine n_putF C0 in_X7 tyX7 tyX7_ok nmX7 (ci := 10) rfl 0 (fs := [.int 0, .int 0, .ref q2, .ref q3, .ref q4, .int 0, .ref q6, .null, .null, .null, .null, .null, .null, .null, .null, .null, .null, .null, .int 0, .int 0, .int 0, .null, .null, .null, .null, .null]) rfl 7 (by decide) wf_X7_22 rfl hmn rfl (tyX7_ok 7 (by decide)) rfl rfl (show 7 < 26 from by decide) dX7_init_42 ?_
  refine j_aload_n C0 dX7_init_45 rfl ?_
  refine j_bipush C0 (v := 30) dX7_init_46 (by decide) ?_
  refine n_newI C0 8 w_arI (by decide) (show (30 : Int32).toNatClampNeg = 30 by decide +kernel) (by decide) (Nat.le_of_ble_eq_true rfl) (Nat.le_of_ble_eq_true rfl) dX7_init_48 (fun q8 => ?_)
  refine n_putF C0 in_X7 tyX7 tyX7_ok nmX7 (ci := 10) rfl 0 (fs := [.int 0, .int 0, .ref q2, .ref q3, .ref q4, .int 0, .ref q6, .ref q7, .null, .null, .null, .null, .null, .null, .null, .null, .null, .null, .int 0, .int 0, .int 0, .null, .null, .null, .null, .null]) rfl 8 (by decide) wf_X7_25 rfl hmn rfl (tyX7_ok 8 (by decide)) rfl rfl (show 8 < 26 from by decide) dX7_init_50 ?_
  refine j_aload_n C0 dX7_init_53 rfl ?_
  refine j_bipush C0 (v := 30) dX7_init_54 (by decide) ?_
  refine n_newI C0 9 w_arI (by decide) (show (30 : Int32).toNatClampNeg = 30 by decide +kernel) (by decide) (Nat.le_of_ble_eq_true rfl) (Nat.le_of_ble_eq_true rfl) dX7_init_56 (fun q9 => ?_)
  refine n_putF C0 in_X7 tyX7 tyX7_ok nmX7 (ci := 10) rfl 0 (fs := [.int 0, .int 0, .ref q2, .ref q3, .ref q4, .int 0, .ref q6, .ref q7, .ref q8, .null, .null, .null, .null, .null, .null, .null, .null, .null, .int 0, .int 0, .int 0, .null, .null, .null, .null, .null]) rfl 9 (by decide) wf_X7_28 rfl hmn rfl (tyX7_ok 9 (by decide)) rfl rfl (show 9 < 26 from by decide) dX7_init_58 ?_
  refine j_aload_n C0 dX7_init_61 rfl ?_
  refine j_bipush C0 (v := 30) dX7_init_62 (by decide) ?_
  refine n_newI C0 10 w_arI (by decide) (show (30 : Int32).toNatClampNeg = 30 by decide +kernel) (by decide) (Nat.le_of_ble_eq_true rfl) (Nat.le_of_ble_eq_true rfl) dX7_init_64 (fun q10 => ?_)
  refine n_putF C0 in_X7 tyX7 tyX7_ok nmX7 (ci := 10) rfl 0 (fs := [.int 0, .int 0, .ref q2, .ref q3, .ref q4, .int 0, .ref q6, .ref q7, .ref q8, .ref q9, .null, .null, .null, .null, .null, .null, .null, .null, .int 0, .int 0, .int 0, .null, .null, .null, .null, .null]) rfl 10 (by decide) wf_X7_31 rfl hmn rfl (tyX7_ok 10 (by decide)) rfl rfl (show 10 < 26 from by decide) dX7_init_66 ?_
  refine j_aload_n C0 dX7_init_69 rfl ?_
  refine j_bipush C0 (v := 30) dX7_init_70 (by decide) ?_
  refine n_newI C0 11 w_arI (by decide) (show (30 : Int32).toNatClampNeg = 30 by decide +kernel) (by decide) (Nat.le_of_ble_eq_true rfl) (Nat.le_of_ble_eq_true rfl) dX7_init_72 (fun q11 => ?_)
  refine n_putF C0 in_X7 tyX7 tyX7_ok nmX7 (ci := 10) rfl 0 (fs := [.int 0, .int 0, .ref q2, .ref q3, .ref q4, .int 0, .ref q6, .ref q7, .ref q8, .ref q9, .ref q10, .null, .null, .null, .null, .null, .null, .null, .int 0, .int 0, .int 0, .null, .null, .null, .null, .null]) rfl 11 (by decide) wf_X7_34 rfl hmn rfl (tyX7_ok 11 (by decide)) rfl rfl (show 11 < 26 from by decide) dX7_init_74 ?_
  refine j_aload_n C0 dX7_init_77 rfl ?_
  refine j_bipush C0 (v := 30) dX7_init_78 (by decide) ?_
  refine n_newI C0 12 w_arI (by decide) (show (30 : Int32).toNatClampNeg = 30 by decide +kernel) (by decide) (Nat.le_of_ble_eq_true rfl) (Nat.le_of_ble_eq_true rfl) dX7_init_80 (fun q12 => ?_)
  refine n_putF C0 in_X7 tyX7 tyX7_ok nmX7 (ci := 10) rfl 0 (fs := [.int 0, .int 0, .ref q2, .ref q3, .ref q4, .int 0, .ref q6, .ref q7, .ref q8, .ref q9, .ref q10, .ref q11, .null, .null, .null, .null, .null, .null, .int 0, .int 0, .int 0, .null, .null, .null, .null, .null]) rfl 12 (by decide) wf_X7_37 rfl hmn rfl (tyX7_ok 12 (by decide)) rfl rfl (show 12 < 26 from by decide) dX7_init_82 ?_
  refine j_aload_n C0 dX7_init_85 rfl ?_
  refine j_bipush C0 (v := 30) dX7_init_86 (by decide) ?_
  refine n_newI C0 13 w_arI (by decide) (show (30 : Int32).toNatClampNeg = 30 by decide +kernel) (by decide) (Nat.le_of_ble_eq_true rfl) (Nat.le_of_ble_eq_true rfl) dX7_init_88 (fun q13 => ?_)
  refine n_putF C0 in_X7 tyX7 tyX7_ok nmX7 (ci := 10) rfl 0 (fs := [.int 0, .int 0, .ref q2, .ref q3, .ref q4, .int 0, .ref q6, .ref q7, .ref q8, .ref q9, .ref q10, .ref q11, .ref q12, .null, .null, .null, .null, .null, .int 0, .int 0, .int 0, .null, .null, .null, .null, .null]) rfl 13 (by decide) wf_X7_40 rfl hmn rfl (tyX7_ok 13 (by decide)) rfl rfl (show 13 < 26 from by decide) dX7_init_90 ?_
  refine j_aload_n C0 dX7_init_93 rfl ?_
  refine j_bipush C0 (v := 30) dX7_init_94 (by decide) ?_
  refine n_newI C0 14 w_arI (by decide) (show (30 : Int32).toNatClampNeg = 30 by decide +kernel) (by decide) (Nat.le_of_ble_eq_true rfl) (Nat.le_of_ble_eq_true rfl) dX7_init_96 (fun q14 => ?_)
  refine n_putF C0 in_X7 tyX7 tyX7_ok nmX7 (ci := 10) rfl 0 (fs := [.int 0, .int 0, .ref q2, .ref q3, .ref q4, .int 0, .ref q6, .ref q7, .ref q8, .ref q9, .ref q10, .ref q11, .ref q12, .ref q13, .null, .null, .null, .null, .int 0, .int 0, .int 0, .null, .null, .null, .null, .null]) rfl 14 (by decide) wf_X7_43 rfl hmn rfl (tyX7_ok 14 (by decide)) rfl rfl (show 14 < 26 from by decide) dX7_init_98 ?_
  refine j_aload_n C0 dX7_init_101 rfl ?_
  refine j_bipush C0 (v := 30) dX7_init_102 (by decide) ?_
  refine n_newI C0 15 w_arI (by decide) (show (30 : Int32).toNatClampNeg = 30 by decide +kernel) (by decide) (Nat.le_of_ble_eq_true rfl) (Nat.le_of_ble_eq_true rfl) dX7_init_104 (fun q15 => ?_)
  refine n_putF C0 in_X7 tyX7 tyX7_ok nmX7 (ci := 10) rfl 0 (fs := [.int 0, .int 0, .ref q2, .ref q3, .ref q4, .int 0, .ref q6, .ref q7, .ref q8, .ref q9, .ref q10, .ref q11, .ref q12, .ref q13, .ref q14, .null, .null, .null, .int 0, .int 0, .int 0, .null, .null, .null, .null, .null]) rfl 15 (by decide) wf_X7_46 rfl hmn rfl (tyX7_ok 15 (by decide)) rfl rfl (show 15 < 26 from by decide) dX7_init_106 ?_
  refine j_aload_n C0 dX7_init_109 rfl ?_
  refine j_bipush C0 (v := 6) dX7_init_110 (by decide) ?_
  refine n_newI C0 16 w_arI (by decide) (show (6 : Int32).toNatClampNeg = 6 by decide +kernel) (by decide) (Nat.le_of_ble_eq_true rfl) (Nat.le_of_ble_eq_true rfl) dX7_init_112 (fun q16 => ?_)
  refine n_putF C0 in_X7 tyX7 tyX7_ok nmX7 (ci := 10) rfl 0 (fs := [.int 0, .int 0, .ref q2, .ref q3, .ref q4, .int 0, .ref q6, .ref q7, .ref q8, .ref q9, .ref q10, .ref q11, .ref q12, .ref q13, .ref q14, .ref q15, .null, .null, .int 0, .int 0, .int 0, .null, .null, .null, .null, .null]) rfl 16 (by decide) wf_X7_49 rfl hmn rfl (tyX7_ok 16 (by decide)) rfl rfl (show 16 < 26 from by decide) dX7_init_114 ?_
  refine j_aload_n C0 dX7_init_117 rfl ?_
  refine j_bipush C0 (v := 6) dX7_init_118 (by decide) ?_
  refine n_newI C0 17 w_arI (by decide) (show (6 : Int32).toNatClampNeg = 6 by decide +kernel) (by decide) (Nat.le_of_ble_eq_true rfl) (Nat.le_of_ble_eq_true rfl) dX7_init_120 (fun q17 => ?_)
  refine n_putF C0 in_X7 tyX7 tyX7_ok nmX7 (ci := 10) rfl 0 (fs := [.int 0, .int 0, .ref q2, .ref q3, .ref q4, .int 0, .ref q6, .ref q7, .ref q8, .ref q9, .ref q10, .ref q11, .ref q12, .ref q13, .ref q14, .ref q15, .ref q16, .null, .int 0, .int 0, .int 0, .null, .null, .null, .null, .null]) rfl 17 (by decide) wf_X7_52 rfl hmn rfl (tyX7_ok 17 (by decide)) rfl rfl (show 17 < 26 from by decide) dX7_init_122 ?_
  refine j_aload_n C0 dX7_init_125 rfl ?_
  refine j_bipush C0 (v := 100) dX7_init_126 (by decide) ?_
  refine n_newI C0 21 w_arI (by decide) (show (100 : Int32).toNatClampNeg = 100 by decide +kernel) (by decide) (Nat.le_of_ble_eq_true rfl) (Nat.le_of_ble_eq_true rfl) dX7_init_128 (fun q21 => ?_)
  refine n_putF C0 in_X7 tyX7 tyX7_ok nmX7 (ci := 10) rfl 0 (fs := [.int 0, .int 0, .ref q2, .ref q3, .ref q4, .int 0, .ref q6, .ref q7, .ref q8, .ref q9, .ref q10, .ref q11, .ref q12, .ref q13, .ref q14, .ref q15, .ref q16, .ref q17, .int 0, .int 0, .int 0, .null, .null, .null, .null, .null]) rfl 21 (by decide) wf_X7_55 rfl hmn rfl (tyX7_ok 21 (by decide)) rfl rfl (show 21 < 26 from by decide) dX7_init_130 ?_
  refine j_aload_n C0 dX7_init_133 rfl ?_
  refine j_bipush C0 (v := 100) dX7_init_134 (by decide) ?_
  refine n_newI C0 22 w_arI (by decide) (show (100 : Int32).toNatClampNeg = 100 by decide +kernel) (by decide) (Nat.le_of_ble_eq_true rfl) (Nat.le_of_ble_eq_true rfl) dX7_init_136 (fun q22 => ?_)
  refine n_putF C0 in_X7 tyX7 tyX7_ok nmX7 (ci := 10) rfl 0 (fs := [.int 0, .int 0, .ref q2, .ref q3, .ref q4, .int 0, .ref q6, .ref q7, .ref q8, .ref q9, .ref q10, .ref q11, .ref q12, .ref q13, .ref q14, .ref q15, .ref q16, .ref q17, .int 0, .int 0, .int 0, .ref q21, .null, .null, .null, .null]) rfl 22 (by decide) wf_X7_58 rfl hmn rfl (tyX7_ok 22 (by decide)) rfl rfl (show 22 < 26 from by decide) dX7_init_138 ?_
  refine j_aload_n C0 dX7_init_141 rfl ?_
  refine j_bipush C0 (v := 100) dX7_init_142 (by decide) ?_
  refine n_newI C0 23 w_arI (by decide) (show (100 : Int32).toNatClampNeg = 100 by decide +kernel) (by decide) (Nat.le_of_ble_eq_true rfl) (Nat.le_of_ble_eq_true rfl) dX7_init_144 (fun q23 => ?_)
  refine n_putF C0 in_X7 tyX7 tyX7_ok nmX7 (ci := 10) rfl 0 (fs := [.int 0, .int 0, .ref q2, .ref q3, .ref q4, .int 0, .ref q6, .ref q7, .ref q8, .ref q9, .ref q10, .ref q11, .ref q12, .ref q13, .ref q14, .ref q15, .ref q16, .ref q17, .int 0, .int 0, .int 0, .ref q21, .ref q22, .null, .null, .null]) rfl 23 (by decide) wf_X7_61 rfl hmn rfl (tyX7_ok 23 (by decide)) rfl rfl (show 23 < 26 from by decide) dX7_init_146 ?_
  refine j_aload_n C0 dX7_init_149 rfl ?_
  refine j_bipush C0 (v := 100) dX7_init_150 (by decide) ?_
  refine n_newI C0 24 w_arI (by decide) (show (100 : Int32).toNatClampNeg = 100 by decide +kernel) (by decide) (Nat.le_of_ble_eq_true rfl) (Nat.le_of_ble_eq_true rfl) dX7_init_152 (fun q24 => ?_)
  refine n_putF C0 in_X7 tyX7 tyX7_ok nmX7 (ci := 10) rfl 0 (fs := [.int 0, .int 0, .ref q2, .ref q3, .ref q4, .int 0, .ref q6, .ref q7, .ref q8, .ref q9, .ref q10, .ref q11, .ref q12, .ref q13, .ref q14, .ref q15, .ref q16, .ref q17, .int 0, .int 0, .int 0, .ref q21, .ref q22, .ref q23, .null, .null]) rfl 24 (by decide) wf_X7_64 rfl hmn rfl (tyX7_ok 24 (by decide)) rfl rfl (show 24 < 26 from by decide) dX7_init_154 ?_
  refine j_aload_n C0 dX7_init_157 rfl ?_
  refine j_bipush C0 (v := 100) dX7_init_158 (by decide) ?_
  refine n_newZ C0 25 w_arZ (by decide) (show (100 : Int32).toNatClampNeg = 100 by decide +kernel) (by decide) (Nat.le_of_ble_eq_true rfl) (Nat.le_of_ble_eq_true rfl) dX7_init_160 (fun q25 => ?_)
  refine n_putF C0 in_X7 tyX7 tyX7_ok nmX7 (ci := 10) rfl 0 (fs := [.int 0, .int 0, .ref q2, .ref q3, .ref q4, .int 0, .ref q6, .ref q7, .ref q8, .ref q9, .ref q10, .ref q11, .ref q12, .ref q13, .ref q14, .ref q15, .ref q16, .ref q17, .int 0, .int 0, .int 0, .ref q21, .ref q22, .ref q23, .ref q24, .null]) rfl 25 (by decide) wf_X7_67 rfl hmn rfl (tyX7_ok 25 (by decide)) rfl rfl (show 25 < 26 from by decide) dX7_init_162 ?_
  obtain ⟨ad, had⟩ : ∃ ad : Nat → Nat, ad = (va_up (va_up (va_up (va_up (va_up (va_up (va_up (va_up (va_up (va_up (va_up (va_up (va_up (va_up (va_up (va_up (va_up (va_up (va_up (va_up (va_up (fun _ => 0) 0 a) 2 q2) 3 q3) 4 q4) 6 q6) 7 q7) 8 q8) 9 q9) 10 q10) 11 q11) 12 q12) 13 q13) 14 q14) 15 q15) 16 q16) 17 q17) 21 q21) 22 q22) 23 q23) 24 q24) 25 q25) := ⟨_, rfl⟩
  obtain ⟨F, hF⟩ : ∃ F : Nat → Int32, F = fun _ => 0 := ⟨_, rfl⟩
  obtain ⟨G, hG⟩ : ∃ G : Nat → Nat → Int32, G = fun _ _ => 0 := ⟨_, rfl⟩
  have ha0 : ad 0 = a := by rw [had]; rfl
  refine j_world (Ω' := OR D Y A ad F G) (fun H h => h.ow (ws := _) [0, 2, 3, 4, 6, 7, 8, 9, 10, 11, 12, 13, 14, 15, 16, 17, 21, 22, 23, 24, 25] rfl (by rw [had, hF, hG]; rfl)) ?_
  subst ha0
  refine j_iconst C0 (v := 0) dX7_init_165 (by decide) ?_
  refine j_istore_n C0 (L' := [(0, .ref (ad 0)), (1, .int ((0 : Int32)))]) dX7_init_166 (by decide) rfl ?_
  refine hb_lp (P := fun (j : Nat) (v : (Nat → Int32)) => J p l e _ s m args below meth c A 2 _ (OV D Y A ad (F 0) (F 1) (F 5) (F 18) (F 19) (F 20) v (G 3) (G 4) (G 6) (G 7) (G 8) (G 9) (G 10) (G 11) (G 12) (G 13) (G 14) (G 15) (G 16) (G 17) (G 21) (G 22) (G 23) (G 24) (G 25)) (0 + 1 + 1 + 1 + 1 + 1 + 1 + 1 + 1 + 1 + 1 + 1 + 1 + 1 + 1 + 1 + 1 + 1 + 1 + 1 + 1) (0 + 12 + 3160 + 6 + 30 + 30 + 30 + 30 + 30 + 30 + 30 + 30 + 30 + 30 + 6 + 6 + 100 + 100 + 100 + 100 + 100) 167 [(0, .ref (ad 0)), (1, .int (nI j))] []) (bX7_init_167 F G) ((G 2)) (12) ?_ ?_
  ·
    intro j167 hj167 K167
    generalize nf (bX7_init_167 F G) ((G 2)) j167 = v167 at K167 ⊢
    show J p l e _ s m args below meth c A 2 _ (OV D Y A ad (F 0) (F 1) (F 5) (F 18) (F 19) (F 20) v167 (G 3) (G 4) (G 6) (G 7) (G 8) (G 9) (G 10) (G 11) (G 12) (G 13) (G 14) (G 15) (G 16) (G 17) (G 21) (G 22) (G 23) (G 24) (G 25)) (0 + 1 + 1 + 1 + 1 + 1 + 1 + 1 + 1 + 1 + 1 + 1 + 1 + 1 + 1 + 1 + 1 + 1 + 1 + 1 + 1) (0 + 12 + 3160 + 6 + 30 + 30 + 30 + 30 + 30 + 30 + 30 + 30 + 30 + 30 + 6 + 6 + 100 + 100 + 100 + 100 + 100) 167 [(0, .ref (ad 0)), (1, .int (nI j167))] []
    replace K167 : J p l e _ s m args below meth c A 2 _ (OV D Y A ad (F 0) (F 1) (F 5) (F 18) (F 19) (F 20) (bX7_init_167 F G j167 v167) (G 3) (G 4) (G 6) (G 7) (G 8) (G 9) (G 10) (G 11) (G 12) (G 13) (G 14) (G 15) (G 16) (G 17) (G 21) (G 22) (G 23) (G 24) (G 25)) (0 + 1 + 1 + 1 + 1 + 1 + 1 + 1 + 1 + 1 + 1 + 1 + 1 + 1 + 1 + 1 + 1 + 1 + 1 + 1 + 1) (0 + 12 + 3160 + 6 + 30 + 30 + 30 + 30 + 30 + 30 + 30 + 30 + 30 + 30 + 6 + 6 + 100 + 100 + 100 + 100 + 100) 167 [(0, .ref (ad 0)), (1, .int (nI (j167 + 1)))] [] := K167
    refine j_iload_n C0 dX7_init_167 rfl ?_
    refine j_bipush C0 (v := 12) dX7_init_168 (by decide) ?_
    refine j_icmp_ge C0 187 dX7_init_170 (by decide) (fun z => absurd z (cl_lt (show (12 : Int32).toNatClampNeg = 12 by decide +kernel) hj167)) (fun _ => ?_)
    refine j_aload_n C0 dX7_init_173 rfl ?_
    refine r_gf_2 C0 dX7_init_174 ?_
    refine j_iload_n C0 dX7_init_177 rfl ?_
    refine j_bipush C0 (v := 50) dX7_init_178 (by decide) ?_
    refine r_st_2 C0 (vp_nI (by omega) (by decide)) dX7_init_180 ?_
    refine j_iinc C0 (v := nI (j167 + 1)) (L' := [(0, .ref (ad 0)), (1, .int (nI (j167 + 1)))]) dX7_init_181 rfl (nI_inc j167) (by decide) rfl ?_
    refine j_goto C0 167 dX7_init_184 (by decide) ?_
    exact K167
  ·
    show J p l e _ s m args below meth c A 2 _ (OV D Y A ad (F 0) (F 1) (F 5) (F 18) (F 19) (F 20) (nf (bX7_init_167 F G) ((G 2)) (12)) (G 3) (G 4) (G 6) (G 7) (G 8) (G 9) (G 10) (G 11) (G 12) (G 13) (G 14) (G 15) (G 16) (G 17) (G 21) (G 22) (G 23) (G 24) (G 25)) (0 + 1 + 1 + 1 + 1 + 1 + 1 + 1 + 1 + 1 + 1 + 1 + 1 + 1 + 1 + 1 + 1 + 1 + 1 + 1 + 1) (0 + 12 + 3160 + 6 + 30 + 30 + 30 + 30 + 30 + 30 + 30 + 30 + 30 + 30 + 6 + 6 + 100 + 100 + 100 + 100 + 100) 167 [(0, .ref (ad 0)), (1, .int (nI ((12))))] []
    refine j_iload_n C0 dX7_init_167 rfl ?_
    refine j_bipush C0 (v := 12) dX7_init_168 (by decide) ?_
    refine j_icmp_ge C0 187 dX7_init_170 (by decide) (fun _ => ?_) (fun z => absurd (cl_le (show (12 : Int32).toNatClampNeg = 12 by decide +kernel)) z)
    refine j_iconst C0 (v := 0) dX7_init_187 (by decide) ?_
    refine j_istore_n C0 (L' := [(0, .ref (ad 0)), (1, .int ((0 : Int32)))]) dX7_init_188 (by decide) rfl ?_
    refine hb_lp (P := fun (j : Nat) (v : (Nat → Int32) × (Nat → Int32)) => J p l e _ s m args below meth c A 2 _ (OV D Y A ad (F 0) (F 1) (F 5) (F 18) (F 19) (F 20) (nf (bX7_init_167 F G) ((G 2)) (12)) (G 3) v.1 (G 6) (G 7) (G 8) (G 9) (G 10) (G 11) (G 12) (G 13) (G 14) (G 15) v.2 (G 17) (G 21) (G 22) (G 23) (G 24) (G 25)) (0 + 1 + 1 + 1 + 1 + 1 + 1 + 1 + 1 + 1 + 1 + 1 + 1 + 1 + 1 + 1 + 1 + 1 + 1 + 1 + 1) (0 + 12 + 3160 + 6 + 30 + 30 + 30 + 30 + 30 + 30 + 30 + 30 + 30 + 30 + 6 + 6 + 100 + 100 + 100 + 100 + 100) 189 [(0, .ref (ad 0)), (1, .int (nI j))] []) (bX7_init_189 F G) ((G 4), (G 16)) (6) ?_ ?_
    ·
      intro j189 hj189 K189
      generalize nf (bX7_init_189 F G) ((G 4), (G 16)) j189 = v189 at K189 ⊢
      obtain ⟨v189_0, v189_1⟩ := v189
      show J p l e _ s m args below meth c A 2 _ (OV D Y A ad (F 0) (F 1) (F 5) (F 18) (F 19) (F 20) (nf (bX7_init_167 F G) ((G 2)) (12)) (G 3) v189_0 (G 6) (G 7) (G 8) (G 9) (G 10) (G 11) (G 12) (G 13) (G 14) (G 15) v189_1 (G 17) (G 21) (G 22) (G 23) (G 24) (G 25)) (0 + 1 + 1 + 1 + 1 + 1 + 1 + 1 + 1 + 1 + 1 + 1 + 1 + 1 + 1 + 1 + 1 + 1 + 1 + 1 + 1) (0 + 12 + 3160 + 6 + 30 + 30 + 30 + 30 + 30 + 30 + 30 + 30 + 30 + 30 + 6 + 6 + 100 + 100 + 100 + 100 + 100) 189 [(0, .ref (ad 0)), (1, .int (nI j189))] []
      replace K189 : J p l e _ s m args below meth c A 2 _ (OV D Y A ad (F 0) (F 1) (F 5) (F 18) (F 19) (F 20) (nf (bX7_init_167 F G) ((G 2)) (12)) (G 3) (bX7_init_189 F G j189 (v189_0, v189_1)).1 (G 6) (G 7) (G 8) (G 9) (G 10) (G 11) (G 12) (G 13) (G 14) (G 15) (bX7_init_189 F G j189 (v189_0, v189_1)).2 (G 17) (G 21) (G 22) (G 23) (G 24) (G 25)) (0 + 1 + 1 + 1 + 1 + 1 + 1 + 1 + 1 + 1 + 1 + 1 + 1 + 1 + 1 + 1 + 1 + 1 + 1 + 1 + 1) (0 + 12 + 3160 + 6 + 30 + 30 + 30 + 30 + 30 + 30 + 30 + 30 + 30 + 30 + 6 + 6 + 100 + 100 + 100 + 100 + 100) 189 [(0, .ref (ad 0)), (1, .int (nI (j189 + 1)))] [] := K189
      refine j_iload_n C0 dX7_init_189 rfl ?_
      refine j_bipush C0 (v := 6) dX7_init_190 (by decide) ?_
      refine j_icmp_ge C0 216 dX7_init_192 (by decide) (fun z => absurd z (cl_lt (show (6 : Int32).toNatClampNeg = 6 by decide +kernel) hj189)) (fun _ => ?_)
      refine j_aload_n C0 dX7_init_195 rfl ?_
      refine r_gf_4 C0 dX7_init_196 ?_
      refine j_iload_n C0 dX7_init_199 rfl ?_
      refine j_bipush C0 (v := 60) dX7_init_200 (by decide) ?_
      refine r_st_4 C0 (vp_nI (by omega) (by decide)) dX7_init_202 ?_
      refine j_aload_n C0 dX7_init_203 rfl ?_
      refine r_gf_16 C0 dX7_init_204 ?_
      refine j_iload_n C0 dX7_init_207 rfl ?_
      refine j_iload_n C0 dX7_init_208 rfl ?_
      refine r_st_16 C0 (vp_nI (by omega) (by decide)) dX7_init_209 ?_
      refine j_iinc C0 (v := nI (j189 + 1)) (L' := [(0, .ref (ad 0)), (1, .int (nI (j189 + 1)))]) dX7_init_210 rfl (nI_inc j189) (by decide) rfl ?_
      refine j_goto C0 189 dX7_init_213 (by decide) ?_
      exact K189
    ·
      show J p l e _ s m args below meth c A 2 _ (OV D Y A ad (F 0) (F 1) (F 5) (F 18) (F 19) (F 20) (nf (bX7_init_167 F G) ((G 2)) (12)) (G 3) (nf (bX7_init_189 F G) ((G 4), (G 16)) (6)).1 (G 6) (G 7) (G 8) (G 9) (G 10) (G 11) (G 12) (G 13) (G 14) (G 15) (nf (bX7_init_189 F G) ((G 4), (G 16)) (6)).2 (G 17) (G 21) (G 22) (G 23) (G 24) (G 25)) (0 + 1 + 1 + 1 + 1 + 1 + 1 + 1 + 1 + 1 + 1 + 1 + 1 + 1 + 1 + 1 + 1 + 1 + 1 + 1 + 1) (0 + 12 + 3160 + 6 + 30 + 30 + 30 + 30 + 30 + 30 + 30 + 30 + 30 + 30 + 6 + 6 + 100 + 100 + 100 + 100 + 100) 189 [(0, .ref (ad 0)), (1, .int (nI ((6))))] []
      refine j_iload_n C0 dX7_init_189 rfl ?_
      refine j_bipush C0 (v := 6) dX7_init_190 (by decide) ?_
      refine j_icmp_ge C0 216 dX7_init_192 (by decide) (fun _ => ?_) (fun z => absurd (cl_le (show (6 : Int32).toNatClampNeg = 6 by decide +kernel)) z)
      exact j_eret (j_vret C0 rfl dX7_init_216 (fun H h => h)) (fun H h => ⟨rfl, ad, rfl, by rw [hF, hG] at h; exact h⟩)
