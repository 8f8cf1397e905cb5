/-- the end of a wind -/
def eH (f h : Nat) : Nat := if 3101 < f + h then 3101 else f + h
theorem eH_b {f h : Nat} (hf : f ≤ 3100) : f ≤ eH f h ∧ eH f h ≤ 3101 := by unfold eH; split <;> omega
theorem eH_e {f h : Nat} (hf : f ≤ 3100) (hh : h ≤ 48) : (if (3101 : Int32) < (nI f + nI h) then (3101 : Int32) else (nI f + nI h)) = nI (eH f h) := by
  unfold eH
  rw [nI_add, show (3101 : Int32) = nI 3101 from rfl]
  by_cases h9 : 3101 < f + h
  · rw [if_pos h9, if_pos (nI_lt h9 (by omega))]
  · rw [if_neg h9, if_neg (nI_nlt (by omega) (by decide))]
theorem pd_eq {f j : Nat} (h : j < f) : nI f - 1 - nI j = nI (f - 1 - j) := by rw [show (1 : Int32) = nI 1 from rfl, pk_sub (by omega), pk_sub (by omega)]
theorem pd_pos {f j : Nat} (h : j < f) (hf : f ≤ 100) : ¬ nI f - 1 - nI j < 0 := by rw [pd_eq h]; exact nI_pos (by omega)
theorem pd_neg {f : Nat} (hf : f ≤ 100) : nI f - 1 - nI f < 0 := by
  have h : ∀ f, f < 101 → nI f - 1 - nI f < 0 := by decide +kernel
  exact h f (by omega)
theorem pd_inc (x : Int32) (j : Nat) : x - nI j + Int32.ofInt (-1) = x - nI (j + 1) := by
  rw [nI_succ, Int32.sub_eq_add_neg, Int32.sub_eq_add_neg, Int32.neg_add, show Int32.ofInt (-1) = -1 by decide, Int32.sub_eq_add_neg (-nI j) 1, Int32.add_assoc]
theorem mn_e {f n : Nat} (h : f ≤ n) (hn : n ≤ 100) : (if (nI n) < nI f then (nI n) else nI f) = nI f := if_neg (nI_nlt h (by omega))
/-! ## HarborTides$Water.tellSurge(III)V -/
def bX5_tellSurge_16 (F : Nat → Int32) (G : Nat → Nat → Int32) (N : Nat → Nat) (Q : Nat → Nat → Nat) (f : Nat) (h : Nat) (a3 : Int32) (j16 : Nat) (v16 : (Nat → Int32)) : (Nat → Int32) := ((upd v16 (nI (f + (j16))).toNatClampNeg (a3)))
def sX5_tellSurge (F : Nat → Int32) (G : Nat → Nat → Int32) (N : Nat → Nat) (Q : Nat → Nat → Nat) (f : Nat) (h : Nat) (a3 : Int32) : (Nat → Int32) := ((nf (bX5_tellSurge_16 F G N Q f h a3) ((G 1)) ((eH f h - f))))
set_option maxRecDepth 100000 in
set_option maxHeartbeats 4000000 in
theorem k_X5_tellSurge {l : Launch} (hsl : l.stackTraces = false) {D : va_G} {Y : Nat → ClassId} {A : Nat → Prop} {E : State → Prop} {tE : Nat} (ad : Nat → Nat) (F : Nat → Int32) (G : Nat → Nat → Int32) (N : Nat → Nat) (Q : Nat → Nat → Nat) (sa ma : Nat → Nat) (f : Nat) (h : Nat) (a3 : Int32)  (hf : f ≤ 3100) (hh : h ≤ 48) : KM l yX5_tellSurge cX5_tellSurge 6 none D Y A E 1 30 0 0 [.ref (ad 1), .int (nI f), .int (nI h), .int (a3)] (CR D Y A tE ad F G N Q sa ma) none (CR D Y A tE ad F (hu G 1 (sX5_tellSurge F G N Q f h a3)) N Q sa ma) := by
  refine KM_of RX5 [(0, .ref (ad 1)), (1, .int (nI f)), (2, .int (nI h)), (3, .int (a3))] rfl (by decide) hsl (Nat.le_of_ble_eq_true rfl) rfl (lok_of rfl rfl) ?_
  intro p e s m args below meth c C0
  show J p l e _ s m args below meth c A 6 _ (CO D Y A tE ad (F 0) (F 1) (F 2) (G 0) (G 1) (G 2) (G 3) (G 4) (G 5) (G 6) (G 7) (G 8) (G 9) (G 10) (G 11) (G 12) (G 13) (G 14) (G 15) (G 16) (G 17) (G 18) (G 19) (N 0) (N 1) (N 2) (Q 0) (Q 1) sa ma) 0 0 0 [(0, .ref (ad 1)), (1, .int (nI f)), (2, .int (nI h)), (3, .int (a3))] []
  refine c_fact (fun cel h => ci_f h) (fun hcf => ?_)
  obtain ⟨hn0, hn1, hn2, hq0, hq1⟩ := hcf
  have heh := eH_b (h := h) hf
  refine j_iload_n C0 dX5_tellSurge_0 rfl ?_
  refine j_iload_n C0 dX5_tellSurge_1 rfl ?_
  refine j_iadd C0 dX5_tellSurge_2 ?_
  refine j_aload_n C0 dX5_tellSurge_3 rfl ?_
  refine c_get C0 in_X5 (ci := 8) rfl 1 (fun cel h => ci_1 h) 1 (by decide) wf_X5_15 rfl dX5_tellSurge_4 ?_
  refine c_alen C0 7 (fun cel h => ci_7 h) (v := 3101) rfl dX5_tellSurge_7 ?_
  refine j_mmin C0 wm_X5_27 w_min_st w_math w_min_co (Nat.le_of_ble_eq_true rfl) (Nat.le_of_ble_eq_true rfl) (Nat.le_refl _) (Nat.le_refl _) dX5_tellSurge_8 ?_
  refine j_top (nI (eH f h)) (eH_e hf hh) ?_
  refine j_istore C0 (L' := [(0, .ref (ad 1)), (1, .int (nI f)), (2, .int (nI h)), (3, .int (a3)), (4, .int (nI (eH f h)))]) dX5_tellSurge_11 (by decide) rfl ?_
  refine j_iload_n C0 dX5_tellSurge_13 rfl ?_
  refine j_istore C0 (L' := [(0, .ref (ad 1)), (1, .int (nI f)), (2, .int (nI h)), (3, .int (a3)), (4, .int (nI (eH f h))), (5, .int (nI f))]) dX5_tellSurge_14 (by decide) rfl ?_
  refine hb_lp (P := fun (j : Nat) (v : (Nat → Int32)) => J p l e _ s m args below meth c A 6 _ (CO D Y A tE ad (F 0) (F 1) (F 2) (G 0) v (G 2) (G 3) (G 4) (G 5) (G 6) (G 7) (G 8) (G 9) (G 10) (G 11) (G 12) (G 13) (G 14) (G 15) (G 16) (G 17) (G 18) (G 19) (N 0) (N 1) (N 2) (Q 0) (Q 1) sa ma) 0 0 16 [(0, .ref (ad 1)), (1, .int (nI f)), (2, .int (nI h)), (3, .int (a3)), (4, .int (nI (eH f h))), (5, .int (nI (f + (j))))] []) (bX5_tellSurge_16 F G N Q f h a3) ((G 1)) ((eH f h - f)) ?_ ?_
  ·
    intro j16 hj16 K16
    generalize nf (bX5_tellSurge_16 F G N Q f h a3) ((G 1)) j16 = v16 at K16 ⊢
    show J p l e _ s m args below meth c A 6 _ (CO D Y A tE ad (F 0) (F 1) (F 2) (G 0) v16 (G 2) (G 3) (G 4) (G 5) (G 6) (G 7) (G 8) (G 9) (G 10) (G 11) (G 12) (G 13) (G 14) (G 15) (G 16) (G 17) (G 18) (G 19) (N 0) (N 1) (N 2) (Q 0) (Q 1) sa ma) 0 0 16 [(0, .ref (ad 1)), (1, .int (nI f)), (2, .int (nI h)), (3, .int (a3)), (4, .int (nI (eH f h))), (5, .int (nI (f + (j16))))] []
    replace K16 : J p l e _ s m args below meth c A 6 _ (CO D Y A tE ad (F 0) (F 1) (F 2) (G 0) (bX5_tellSurge_16 F G N Q f h a3 j16 v16) (G 2) (G 3) (G 4) (G 5) (G 6) (G 7) (G 8) (G 9) (G 10) (G 11) (G 12) (G 13) (G 14) (G 15) (G 16) (G 17) (G 18) (G 19) (N 0) (N 1) (N 2) (Q 0) (Q 1) sa ma) 0 0 16 [(0, .ref (ad 1)), (1, .int (nI f)), (2, .int (nI h)), (3, .int (a3)), (4, .int (nI (eH f h))), (5, .int (nI (f + (j16 + 1))))] [] := K16
    refine j_iload C0 dX5_tellSurge_16 rfl ?_
    refine j_iload C0 dX5_tellSurge_18 rfl ?_
    refine j_icmp_ge C0 37 dX5_tellSurge_20 (by decide) (fun z => absurd z (nI_ge (by omega) (by omega))) (fun _ => ?_)
    refine j_aload_n C0 dX5_tellSurge_23 rfl ?_
    refine c_get C0 in_X5 (ci := 8) rfl 1 (fun cel h => ci_1 h) 1 (by decide) wf_X5_15 rfl dX5_tellSurge_24 ?_
    refine j_iload C0 dX5_tellSurge_27 rfl ?_
    refine j_iload_n C0 dX5_tellSurge_29 rfl ?_
    refine c_iast C0 (P := (CIV Y tE ad (F 0) (F 1) (F 2) (G 0) v16 (G 2) (G 3) (G 4) (G 5) (G 6) (G 7) (G 8) (G 9) (G 10) (G 11) (G 12) (G 13) (G 14) (G 15) (G 16) (G 17) (G 18) (G 19) (N 0) (N 1) (N 2) (Q 0) (Q 1) sa ma)) (P' := (CIV Y tE ad (F 0) (F 1) (F 2) (G 0) (upd v16 (nI (f + (j16))).toNatClampNeg (a3)) (G 2) (G 3) (G 4) (G 5) (G 6) (G 7) (G 8) (G 9) (G 10) (G 11) (G 12) (G 13) (G 14) (G 15) (G 16) (G 17) (G 18) (G 19) (N 0) (N 1) (N 2) (Q 0) (Q 1) sa ma)) 7 (fun cel h => ci_7 h) (vp_in_nI (by omega) (by decide)) dX5_tellSurge_30 (fun cel h => ca_1 _ h) ?_
    refine j_iinc C0 (v := nI (f + (j16 + 1))) (L' := [(0, .ref (ad 1)), (1, .int (nI f)), (2, .int (nI h)), (3, .int (a3)), (4, .int (nI (eH f h))), (5, .int (nI (f + (j16 + 1))))]) dX5_tellSurge_31 rfl (nI_inc (f + j16)) (by decide) rfl ?_
    refine j_goto C0 16 dX5_tellSurge_34 (by decide) ?_
    exact K16
  ·
    show J p l e _ s m args below meth c A 6 _ (CO D Y A tE ad (F 0) (F 1) (F 2) (G 0) (nf (bX5_tellSurge_16 F G N Q f h a3) ((G 1)) ((eH f h - f))) (G 2) (G 3) (G 4) (G 5) (G 6) (G 7) (G 8) (G 9) (G 10) (G 11) (G 12) (G 13) (G 14) (G 15) (G 16) (G 17) (G 18) (G 19) (N 0) (N 1) (N 2) (Q 0) (Q 1) sa ma) 0 0 16 [(0, .ref (ad 1)), (1, .int (nI f)), (2, .int (nI h)), (3, .int (a3)), (4, .int (nI (eH f h))), (5, .int (nI (f + (((eH f h - f))))))] []
    refine j_iload C0 dX5_tellSurge_16 rfl ?_
    refine j_iload C0 dX5_tellSurge_18 rfl ?_
    refine j_icmp_ge C0 37 dX5_tellSurge_20 (by decide) (fun _ => ?_) (fun z => absurd (nI_le (by omega) (by omega)) z)
    exact j_vret C0 rfl dX5_tellSurge_37 (fun H h => by rw [sX5_tellSurge]; exact h)
/-! ## HarborTides$Rota.exchange(II)I -/
def bX3_exchange_5 (F : Nat → Int32) (G : Nat → Nat → Int32) (N : Nat → Nat) (Q : Nat → Nat → Nat) (a1 : Int32) (a2 : Int32) (j5 : Nat) (v5 : Int32 × (Nat → Int32)) : Int32 × (Nat → Int32) := match v5 with | (v5_0, v5_1) => (if (v5_1 (nI j5).toNatClampNeg) = a1 then (v5_0, (upd v5_1 (nI j5).toNatClampNeg (a2))) else (if (v5_1 (nI j5).toNatClampNeg) = a2 then (nI j5, (upd v5_1 (nI j5).toNatClampNeg (a1))) else (v5_0, v5_1)))
def vX3_exchange (F : Nat → Int32) (G : Nat → Nat → Int32) (N : Nat → Nat) (Q : Nat → Nat → Nat) (a1 : Int32) (a2 : Int32) : Int32 := (nf (bX3_exchange_5 F G N Q a1 a2) ((-1 : Int32), (G 3)) (6)).1
def sX3_exchange (F : Nat → Int32) (G : Nat → Nat → Int32) (N : Nat → Nat) (Q : Nat → Nat → Nat) (a1 : Int32) (a2 : Int32) : (Nat → Int32) := ((nf (bX3_exchange_5 F G N Q a1 a2) ((-1 : Int32), (G 3)) (6)).2)
set_option maxRecDepth 100000 in
set_option maxHeartbeats 4000000 in
theorem k_X3_exchange {l : Launch} (hsl : l.stackTraces = false) {D : va_G} {Y : Nat → ClassId} {A : Nat → Prop} {E : State → Prop} {tE : Nat} (ad : Nat → Nat) (F : Nat → Int32) (G : Nat → Nat → Int32) (N : Nat → Nat) (Q : Nat → Nat → Nat) (sa ma : Nat → Nat) (a1 : Int32) (a2 : Int32)   : KM l yX3_exchange cX3_exchange 5 (some .int) D Y A E 0 0 0 0 [.ref (ad 2), .int (a1), .int (a2)] (CR D Y A tE ad F G N Q sa ma) (some (.int (vX3_exchange F G N Q a1 a2))) (CR D Y A tE ad F (hu G 3 (sX3_exchange F G N Q a1 a2)) N Q sa ma) := by
  refine KM_of RX3 [(0, .ref (ad 2)), (1, .int (a1)), (2, .int (a2))] rfl (by decide) hsl (Nat.le_of_ble_eq_true rfl) rfl (lok_of rfl rfl) ?_
  intro p e s m args below meth c C0
  show J p l e _ s m args below meth c A 5 _ (CO D Y A tE ad (F 0) (F 1) (F 2) (G 0) (G 1) (G 2) (G 3) (G 4) (G 5) (G 6) (G 7) (G 8) (G 9) (G 10) (G 11) (G 12) (G 13) (G 14) (G 15) (G 16) (G 17) (G 18) (G 19) (N 0) (N 1) (N 2) (Q 0) (Q 1) sa ma) 0 0 0 [(0, .ref (ad 2)), (1, .int (a1)), (2, .int (a2))] []
  refine c_fact (fun cel h => ci_f h) (fun hcf => ?_)
  obtain ⟨hn0, hn1, hn2, hq0, hq1⟩ := hcf
  refine j_iconst C0 (v := -1) dX3_exchange_0 (by decide) ?_
  refine j_istore_n C0 (L' := [(0, .ref (ad 2)), (1, .int (a1)), (2, .int (a2)), (3, .int ((-1 : Int32)))]) dX3_exchange_1 (by decide) rfl ?_
  refine j_iconst C0 (v := 0) dX3_exchange_2 (by decide) ?_
  refine j_istore C0 (L' := [(0, .ref (ad 2)), (1, .int (a1)), (2, .int (a2)), (3, .int ((-1 : Int32))), (4, .int ((0 : Int32)))]) dX3_exchange_3 (by decide) rfl ?_
  refine hb_lp (P := fun (j : Nat) (v : Int32 × (Nat → Int32)) => J p l e _ s m args below meth c A 5 _ (CO D Y A tE ad (F 0) (F 1) (F 2) (G 0) (G 1) (G 2) v.2 (G 4) (G 5) (G 6) (G 7) (G 8) (G 9) (G 10) (G 11) (G 12) (G 13) (G 14) (G 15) (G 16) (G 17) (G 18) (G 19) (N 0) (N 1) (N 2) (Q 0) (Q 1) sa ma) 0 0 5 [(0, .ref (ad 2)), (1, .int (a1)), (2, .int (a2)), (3, .int (v.1)), (4, .int (nI j))] []) (bX3_exchange_5 F G N Q a1 a2) ((-1 : Int32), (G 3)) (6) ?_ ?_
  ·
    intro j5 hj5 K5
    generalize nf (bX3_exchange_5 F G N Q a1 a2) ((-1 : Int32), (G 3)) j5 = v5 at K5 ⊢
    obtain ⟨v5_0, v5_1⟩ := v5
    show J p l e _ s m args below meth c A 5 _ (CO D Y A tE ad (F 0) (F 1) (F 2) (G 0) (G 1) (G 2) v5_1 (G 4) (G 5) (G 6) (G 7) (G 8) (G 9) (G 10) (G 11) (G 12) (G 13) (G 14) (G 15) (G 16) (G 17) (G 18) (G 19) (N 0) (N 1) (N 2) (Q 0) (Q 1) sa ma) 0 0 5 [(0, .ref (ad 2)), (1, .int (a1)), (2, .int (a2)), (3, .int (v5_0)), (4, .int (nI j5))] []
    replace K5 : J p l e _ s m args below meth c A 5 _ (CO D Y A tE ad (F 0) (F 1) (F 2) (G 0) (G 1) (G 2) (bX3_exchange_5 F G N Q a1 a2 j5 (v5_0, v5_1)).2 (G 4) (G 5) (G 6) (G 7) (G 8) (G 9) (G 10) (G 11) (G 12) (G 13) (G 14) (G 15) (G 16) (G 17) (G 18) (G 19) (N 0) (N 1) (N 2) (Q 0) (Q 1) sa ma) 0 0 5 [(0, .ref (ad 2)), (1, .int (a1)), (2, .int (a2)), (3, .int ((bX3_exchange_5 F G N Q a1 a2 j5 (v5_0, v5_1)).1)), (4, .int (nI (j5 + 1)))] [] := K5
    refine j_iload C0 dX3_exchange_5 rfl ?_
    refine j_bipush C0 (v := 6) dX3_exchange_7 (by decide) ?_
    refine j_icmp_ge C0 62 dX3_exchange_9 (by decide) (fun z => absurd z (cl_lt (show (6 : Int32).toNatClampNeg = 6 by decide +kernel) hj5)) (fun _ => ?_)
    refine j_aload_n C0 dX3_exchange_12 rfl ?_
    refine c_get C0 in_X3 (ci := 6) rfl 2 (fun cel h => ci_2 h) 0 (by decide) wf_X3_9 rfl dX3_exchange_13 ?_
    refine j_iload C0 dX3_exchange_16 rfl ?_
    refine c_iald C0 9 (fun cel h => ci_9 h) (v := (v5_1 (nI j5).toNatClampNeg)) (vp_nI (by omega) (by decide)) dX3_exchange_18 rfl ?_
    refine j_iload_n C0 dX3_exchange_19 rfl ?_
    refine j_icmp_ne C0 34 dX3_exchange_20 (by decide) (fun (q2 : ¬ ((v5_1 (nI j5).toNatClampNeg) = a1)) => ?_) (fun (q2 : (v5_1 (nI j5).toNatClampNeg) = a1) => ?_)
    ·
      refine j_aload_n C0 dX3_exchange_34 rfl ?_
      refine c_get C0 in_X3 (ci := 6) rfl 2 (fun cel h => ci_2 h) 0 (by decide) wf_X3_9 rfl dX3_exchange_35 ?_
      refine j_iload C0 dX3_exchange_38 rfl ?_
      refine c_iald C0 9 (fun cel h => ci_9 h) (v := (v5_1 (nI j5).toNatClampNeg)) (vp_nI (by omega) (by decide)) dX3_exchange_40 rfl ?_
      refine j_iload_n C0 dX3_exchange_41 rfl ?_
      refine j_icmp_ne C0 56 dX3_exchange_42 (by decide) (fun (q3 : ¬ ((v5_1 (nI j5).toNatClampNeg) = a2)) => ?_) (fun (q3 : (v5_1 (nI j5).toNatClampNeg) = a2) => ?_)
      ·
        refine j_iinc C0 (v := nI (j5 + 1)) (L' := [(0, .ref (ad 2)), (1, .int (a1)), (2, .int (a2)), (3, .int (v5_0)), (4, .int (nI (j5 + 1)))]) dX3_exchange_56 rfl (nI_inc j5) (by decide) rfl ?_
        refine j_goto C0 5 dX3_exchange_59 (by decide) ?_
        rw [bX3_exchange_5, if_neg q2, if_neg q3] at K5
        exact K5
      ·
        refine j_aload_n C0 dX3_exchange_45 rfl ?_
        refine c_get C0 in_X3 (ci := 6) rfl 2 (fun cel h => ci_2 h) 0 (by decide) wf_X3_9 rfl dX3_exchange_46 ?_
        refine j_iload C0 dX3_exchange_49 rfl ?_
        refine j_iload_n C0 dX3_exchange_51 rfl ?_
        refine c_iast C0 (P := (CIV Y tE ad (F 0) (F 1) (F 2) (G 0) (G 1) (G 2) v5_1 (G 4) (G 5) (G 6) (G 7) (G 8) (G 9) (G 10) (G 11) (G 12) (G 13) (G 14) (G 15) (G 16) (G 17) (G 18) (G 19) (N 0) (N 1) (N 2) (Q 0) (Q 1) sa ma)) (P' := (CIV Y tE ad (F 0) (F 1) (F 2) (G 0) (G 1) (G 2) (upd v5_1 (nI j5).toNatClampNeg (a1)) (G 4) (G 5) (G 6) (G 7) (G 8) (G 9) (G 10) (G 11) (G 12) (G 13) (G 14) (G 15) (G 16) (G 17) (G 18) (G 19) (N 0) (N 1) (N 2) (Q 0) (Q 1) sa ma)) 9 (fun cel h => ci_9 h) (vp_nI (by omega) (by decide)) dX3_exchange_52 (fun cel h => ca_3 _ h) ?_
        refine j_iload C0 dX3_exchange_53 rfl ?_
        refine j_istore_n C0 (L' := [(0, .ref (ad 2)), (1, .int (a1)), (2, .int (a2)), (3, .int (nI j5)), (4, .int (nI j5))]) dX3_exchange_55 (by decide) rfl ?_
        refine j_iinc C0 (v := nI (j5 + 1)) (L' := [(0, .ref (ad 2)), (1, .int (a1)), (2, .int (a2)), (3, .int (nI j5)), (4, .int (nI (j5 + 1)))]) dX3_exchange_56 rfl (nI_inc j5) (by decide) rfl ?_
        refine j_goto C0 5 dX3_exchange_59 (by decide) ?_
        rw [bX3_exchange_5, if_neg q2, if_pos q3] at K5
        exact K5
    ·
      refine j_aload_n C0 dX3_exchange_23 rfl ?_
      refine c_get C0 in_X3 (ci := 6) rfl 2 (fun cel h => ci_2 h) 0 (by decide) wf_X3_9 rfl dX3_exchange_24 ?_
      refine j_iload C0 dX3_exchange_27 rfl ?_
      refine j_iload_n C0 dX3_exchange_29 rfl ?_
      refine c_iast C0 (P := (CIV Y tE ad (F 0) (F 1) (F 2) (G 0) (G 1) (G 2) v5_1 (G 4) (G 5) (G 6) (G 7) (G 8) (G 9) (G 10) (G 11) (G 12) (G 13) (G 14) (G 15) (G 16) (G 17) (G 18) (G 19) (N 0) (N 1) (N 2) (Q 0) (Q 1) sa ma)) (P' := (CIV Y tE ad (F 0) (F 1) (F 2) (G 0) (G 1) (G 2) (upd v5_1 (nI j5).toNatClampNeg (a2)) (G 4) (G 5) (G 6) (G 7) (G 8) (G 9) (G 10) (G 11) (G 12) (G 13) (G 14) (G 15) (G 16) (G 17) (G 18) (G 19) (N 0) (N 1) (N 2) (Q 0) (Q 1) sa ma)) 9 (fun cel h => ci_9 h) (vp_nI (by omega) (by decide)) dX3_exchange_30 (fun cel h => ca_3 _ h) ?_
      refine j_goto C0 56 dX3_exchange_31 (by decide) ?_
      refine j_iinc C0 (v := nI (j5 + 1)) (L' := [(0, .ref (ad 2)), (1, .int (a1)), (2, .int (a2)), (3, .int (v5_0)), (4, .int (nI (j5 + 1)))]) dX3_exchange_56 rfl (nI_inc j5) (by decide) rfl ?_
      refine j_goto C0 5 dX3_exchange_59 (by decide) ?_
      rw [bX3_exchange_5, if_pos q2] at K5
      exact K5
  ·
    show J p l e _ s m args below meth c A 5 _ (CO D Y A tE ad (F 0) (F 1) (F 2) (G 0) (G 1) (G 2) (nf (bX3_exchange_5 F G N Q a1 a2) ((-1 : Int32), (G 3)) (6)).2 (G 4) (G 5) (G 6) (G 7) (G 8) (G 9) (G 10) (G 11) (G 12) (G 13) (G 14) (G 15) (G 16) (G 17) (G 18) (G 19) (N 0) (N 1) (N 2) (Q 0) (Q 1) sa ma) 0 0 5 [(0, .ref (ad 2)), (1, .int (a1)), (2, .int (a2)), (3, .int ((nf (bX3_exchange_5 F G N Q a1 a2) ((-1 : Int32), (G 3)) (6)).1)), (4, .int (nI ((6))))] []
    refine j_iload C0 dX3_exchange_5 rfl ?_
    refine j_bipush C0 (v := 6) dX3_exchange_7 (by decide) ?_
    refine j_icmp_ge C0 62 dX3_exchange_9 (by decide) (fun _ => ?_) (fun z => absurd (cl_le (show (6 : Int32).toNatClampNeg = 6 by decide +kernel)) z)
    refine j_iload_n C0 dX3_exchange_62 rfl ?_
    exact j_iretE C0 rfl (by rw [vX3_exchange]) dX3_exchange_63 (fun H h => by rw [sX3_exchange]; exact h)
/-! ## HarborTides$Rota.sendLast(I)V -/
def bX3_sendLast_4 (F : Nat → Int32) (G : Nat → Nat → Int32) (N : Nat → Nat) (Q : Nat → Nat → Nat) (a1 : Int32) (j4 : Nat) (v4 : Int32 × (Nat → Int32)) : Int32 × (Nat → Int32) := match v4 with | (v4_0, v4_1) => (if (v4_1 (nI j4).toNatClampNeg) = a1 then (v4_0, v4_1) else ((v4_0 + Int32.ofInt (1)), (upd v4_1 (v4_0).toNatClampNeg ((v4_1 (nI j4).toNatClampNeg)))))
def sX3_sendLast (F : Nat → Int32) (G : Nat → Nat → Int32) (N : Nat → Nat) (Q : Nat → Nat → Nat) (a1 : Int32) : (Nat → Int32) := ((upd (nf (bX3_sendLast_4 F G N Q a1) ((0 : Int32), (G 3)) (6)).2 ((5 : Int32)).toNatClampNeg (a1)))
theorem inv_X3_sendLast (F : Nat → Int32) (G : Nat → Nat → Int32) (N : Nat → Nat) (Q : Nat → Nat → Nat) (a1 : Int32) : ∀ j, ∃ c, c ≤ j ∧ (nf (bX3_sendLast_4 F G N Q a1) ((0 : Int32), G 3) j).1 = nI c := by
  intro j
  induction j with
  | zero => exact ⟨0, Nat.le_refl _, rfl⟩
  | succ n ih =>
    obtain ⟨c, h1, h2⟩ := ih
    rw [nf, bX3_sendLast_4]
    generalize nf (bX3_sendLast_4 F G N Q a1) ((0 : Int32), G 3) n = v at h2
    obtain ⟨v0, v1⟩ := v
    dsimp only at h2 ⊢
    split
    · exact ⟨c, by omega, h2⟩
    · exact ⟨c + 1, by omega, by rw [h2]; exact nI_inc c⟩
set_option maxRecDepth 100000 in
set_option maxHeartbeats 4000000 in
theorem k_X3_sendLast {l : Launch} (hsl : l.stackTraces = false) {D : va_G} {Y : Nat → ClassId} {A : Nat → Prop} {E : State → Prop} {tE : Nat} (ad : Nat → Nat) (F : Nat → Int32) (G : Nat → Nat → Int32) (N : Nat → Nat) (Q : Nat → Nat → Nat) (sa ma : Nat → Nat) (a1 : Int32)   : KM l yX3_sendLast cX3_sendLast 4 none D Y A E 0 0 0 0 [.ref (ad 2), .int (a1)] (CR D Y A tE ad F G N Q sa ma) none (CR D Y A tE ad F (hu G 3 (sX3_sendLast F G N Q a1)) N Q sa ma) := by
  refine KM_of RX3 [(0, .ref (ad 2)), (1, .int (a1))] rfl (by decide) hsl (Nat.le_of_ble_eq_true rfl) rfl (lok_of rfl rfl) ?_
  intro p e s m args below meth c C0
  show J p l e _ s m args below meth c A 4 _ (CO D Y A tE ad (F 0) (F 1) (F 2) (G 0) (G 1) (G 2) (G 3) (G 4) (G 5) (G 6) (G 7) (G 8) (G 9) (G 10) (G 11) (G 12) (G 13) (G 14) (G 15) (G 16) (G 17) (G 18) (G 19) (N 0) (N 1) (N 2) (Q 0) (Q 1) sa ma) 0 0 0 [(0, .ref (ad 2)), (1, .int (a1))] []
  refine c_fact (fun cel h => ci_f h) (fun hcf => ?_)
  obtain ⟨hn0, hn1, hn2, hq0, hq1⟩ := hcf
  refine j_iconst C0 (v := 0) dX3_sendLast_0 (by decide) ?_
  refine j_istore_n C0 (L' := [(0, .ref (ad 2)), (1, .int (a1)), (2, .int ((0 : Int32)))]) dX3_sendLast_1 (by decide) rfl ?_
  refine j_iconst C0 (v := 0) dX3_sendLast_2 (by decide) ?_
  refine j_istore_n C0 (L' := [(0, .ref (ad 2)), (1, .int (a1)), (2, .int ((0 : Int32))), (3, .int ((0 : Int32)))]) dX3_sendLast_3 (by decide) rfl ?_
  refine hb_lp (P := fun (j : Nat) (v : Int32 × (Nat → Int32)) => J p l e _ s m args below meth c A 4 _ (CO D Y A tE ad (F 0) (F 1) (F 2) (G 0) (G 1) (G 2) v.2 (G 4) (G 5) (G 6) (G 7) (G 8) (G 9) (G 10) (G 11) (G 12) (G 13) (G 14) (G 15) (G 16) (G 17) (G 18) (G 19) (N 0) (N 1) (N 2) (Q 0) (Q 1) sa ma) 0 0 4 [(0, .ref (ad 2)), (1, .int (a1)), (2, .int (v.1)), (3, .int (nI j))] []) (bX3_sendLast_4 F G N Q a1) ((0 : Int32), (G 3)) (6) ?_ ?_
  ·
    intro j4 hj4 K4
    have hv4 := inv_X3_sendLast F G N Q a1 j4
    generalize nf (bX3_sendLast_4 F G N Q a1) ((0 : Int32), (G 3)) j4 = v4 at K4 hv4 ⊢
    obtain ⟨v4_0, v4_1⟩ := v4
    try dsimp only at hv4
    show J p l e _ s m args below meth c A 4 _ (CO D Y A tE ad (F 0) (F 1) (F 2) (G 0) (G 1) (G 2) v4_1 (G 4) (G 5) (G 6) (G 7) (G 8) (G 9) (G 10) (G 11) (G 12) (G 13) (G 14) (G 15) (G 16) (G 17) (G 18) (G 19) (N 0) (N 1) (N 2) (Q 0) (Q 1) sa ma) 0 0 4 [(0, .ref (ad 2)), (1, .int (a1)), (2, .int (v4_0)), (3, .int (nI j4))] []
    replace K4 : J p l e _ s m args below meth c A 4 _ (CO D Y A tE ad (F 0) (F 1) (F 2) (G 0) (G 1) (G 2) (bX3_sendLast_4 F G N Q a1 j4 (v4_0, v4_1)).2 (G 4) (G 5) (G 6) (G 7) (G 8) (G 9) (G 10) (G 11) (G 12) (G 13) (G 14) (G 15) (G 16) (G 17) (G 18) (G 19) (N 0) (N 1) (N 2) (Q 0) (Q 1) sa ma) 0 0 4 [(0, .ref (ad 2)), (1, .int (a1)), (2, .int ((bX3_sendLast_4 F G N Q a1 j4 (v4_0, v4_1)).1)), (3, .int (nI (j4 + 1)))] [] := K4
    refine j_iload_n C0 dX3_sendLast_4 rfl ?_
    refine j_bipush C0 (v := 6) dX3_sendLast_5 (by decide) ?_
    refine j_icmp_ge C0 41 dX3_sendLast_7 (by decide) (fun z => absurd z (cl_lt (show (6 : Int32).toNatClampNeg = 6 by decide +kernel) hj4)) (fun _ => ?_)
    refine j_aload_n C0 dX3_sendLast_10 rfl ?_
    refine c_get C0 in_X3 (ci := 6) rfl 2 (fun cel h => ci_2 h) 0 (by decide) wf_X3_9 rfl dX3_sendLast_11 ?_
    refine j_iload_n C0 dX3_sendLast_14 rfl ?_
    refine c_iald C0 9 (fun cel h => ci_9 h) (v := (v4_1 (nI j4).toNatClampNeg)) (vp_nI (by omega) (by decide)) dX3_sendLast_15 rfl ?_
    refine j_iload_n C0 dX3_sendLast_16 rfl ?_
    refine j_icmp_eq C0 35 dX3_sendLast_17 (by decide) (fun (q2 : (v4_1 (nI j4).toNatClampNeg) = a1) => ?_) (fun (q2 : ¬ ((v4_1 (nI j4).toNatClampNeg) = a1)) => ?_)
    ·
      refine j_iinc C0 (v := nI (j4 + 1)) (L' := [(0, .ref (ad 2)), (1, .int (a1)), (2, .int (v4_0)), (3, .int (nI (j4 + 1)))]) dX3_sendLast_35 rfl (nI_inc j4) (by decide) rfl ?_
      refine j_goto C0 4 dX3_sendLast_38 (by decide) ?_
      rw [bX3_sendLast_4, if_pos q2] at K4
      exact K4
    ·
      refine j_aload_n C0 dX3_sendLast_20 rfl ?_
      refine c_get C0 in_X3 (ci := 6) rfl 2 (fun cel h => ci_2 h) 0 (by decide) wf_X3_9 rfl dX3_sendLast_21 ?_
      refine j_iload_n C0 dX3_sendLast_24 rfl ?_
      refine j_aload_n C0 dX3_sendLast_25 rfl ?_
      refine c_get C0 in_X3 (ci := 6) rfl 2 (fun cel h => ci_2 h) 0 (by decide) wf_X3_9 rfl dX3_sendLast_26 ?_
      refine j_iload_n C0 dX3_sendLast_29 rfl ?_
      refine c_iald C0 9 (fun cel h => ci_9 h) (v := (v4_1 (nI j4).toNatClampNeg)) (vp_nI (by omega) (by decide)) dX3_sendLast_30 rfl ?_
      refine c_iast C0 (P := (CIV Y tE ad (F 0) (F 1) (F 2) (G 0) (G 1) (G 2) v4_1 (G 4) (G 5) (G 6) (G 7) (G 8) (G 9) (G 10) (G 11) (G 12) (G 13) (G 14) (G 15) (G 16) (G 17) (G 18) (G 19) (N 0) (N 1) (N 2) (Q 0) (Q 1) sa ma)) (P' := (CIV Y tE ad (F 0) (F 1) (F 2) (G 0) (G 1) (G 2) (upd v4_1 (v4_0).toNatClampNeg ((v4_1 (nI j4).toNatClampNeg))) (G 4) (G 5) (G 6) (G 7) (G 8) (G 9) (G 10) (G 11) (G 12) (G 13) (G 14) (G 15) (G 16) (G 17) (G 18) (G 19) (N 0) (N 1) (N 2) (Q 0) (Q 1) sa ma)) 9 (fun cel h => ci_9 h) (by obtain ⟨c, hc1, hc2⟩ := hv4; rw [hc2]; exact vp_in_nI (by omega) (by decide)) dX3_sendLast_31 (fun cel h => ca_3 _ h) ?_
      refine j_iinc C0 (v := (v4_0 + Int32.ofInt (1))) (L' := [(0, .ref (ad 2)), (1, .int (a1)), (2, .int ((v4_0 + Int32.ofInt (1)))), (3, .int (nI j4))]) dX3_sendLast_32 rfl rfl (by decide) rfl ?_
      refine j_iinc C0 (v := nI (j4 + 1)) (L' := [(0, .ref (ad 2)), (1, .int (a1)), (2, .int ((v4_0 + Int32.ofInt (1)))), (3, .int (nI (j4 + 1)))]) dX3_sendLast_35 rfl (nI_inc j4) (by decide) rfl ?_
      refine j_goto C0 4 dX3_sendLast_38 (by decide) ?_
      rw [bX3_sendLast_4, if_neg q2] at K4
      exact K4
  ·
    show J p l e _ s m args below meth c A 4 _ (CO D Y A tE ad (F 0) (F 1) (F 2) (G 0) (G 1) (G 2) (nf (bX3_sendLast_4 F G N Q a1) ((0 : Int32), (G 3)) (6)).2 (G 4) (G 5) (G 6) (G 7) (G 8) (G 9) (G 10) (G 11) (G 12) (G 13) (G 14) (G 15) (G 16) (G 17) (G 18) (G 19) (N 0) (N 1) (N 2) (Q 0) (Q 1) sa ma) 0 0 4 [(0, .ref (ad 2)), (1, .int (a1)), (2, .int ((nf (bX3_sendLast_4 F G N Q a1) ((0 : Int32), (G 3)) (6)).1)), (3, .int (nI ((6))))] []
    refine j_iload_n C0 dX3_sendLast_4 rfl ?_
    refine j_bipush C0 (v := 6) dX3_sendLast_5 (by decide) ?_
    refine j_icmp_ge C0 41 dX3_sendLast_7 (by decide) (fun _ => ?_) (fun z => absurd (cl_le (show (6 : Int32).toNatClampNeg = 6 by decide +kernel)) z)
    refine j_aload_n C0 dX3_sendLast_41 rfl ?_
    refine c_get C0 in_X3 (ci := 6) rfl 2 (fun cel h => ci_2 h) 0 (by decide) wf_X3_9 rfl dX3_sendLast_42 ?_
    refine j_iconst C0 (v := 5) dX3_sendLast_45 (by decide) ?_
    refine j_iload_n C0 dX3_sendLast_46 rfl ?_
    refine c_iast C0 (P := (CIV Y tE ad (F 0) (F 1) (F 2) (G 0) (G 1) (G 2) (nf (bX3_sendLast_4 F G N Q a1) ((0 : Int32), (G 3)) (6)).2 (G 4) (G 5) (G 6) (G 7) (G 8) (G 9) (G 10) (G 11) (G 12) (G 13) (G 14) (G 15) (G 16) (G 17) (G 18) (G 19) (N 0) (N 1) (N 2) (Q 0) (Q 1) sa ma)) (P' := (CIV Y tE ad (F 0) (F 1) (F 2) (G 0) (G 1) (G 2) (upd (nf (bX3_sendLast_4 F G N Q a1) ((0 : Int32), (G 3)) (6)).2 ((5 : Int32)).toNatClampNeg (a1)) (G 4) (G 5) (G 6) (G 7) (G 8) (G 9) (G 10) (G 11) (G 12) (G 13) (G 14) (G 15) (G 16) (G 17) (G 18) (G 19) (N 0) (N 1) (N 2) (Q 0) (Q 1) sa ma)) 9 (fun cel h => ci_9 h) (vp_lit (by decide +kernel)) dX3_sendLast_47 (fun cel h => ca_3 _ h) ?_
    exact j_vret C0 rfl dX3_sendLast_48 (fun H h => by rw [sX3_sendLast]; exact h)
/-! ## HarborTides$OrderQueue.count()I -/
def vX2_count (F : Nat → Int32) (G : Nat → Nat → Int32) (N : Nat → Nat) (Q : Nat → Nat → Nat) : Int32 := nI (N 2)
set_option maxRecDepth 100000 in
set_option maxHeartbeats 4000000 in
theorem k_X2_count {l : Launch} (hsl : l.stackTraces = false) {D : va_G} {Y : Nat → ClassId} {A : Nat → Prop} {E : State → Prop} {tE : Nat} (ad : Nat → Nat) (F : Nat → Int32) (G : Nat → Nat → Int32) (N : Nat → Nat) (Q : Nat → Nat → Nat) (sa ma : Nat → Nat)    : KM l yX2_count cX2_count 1 (some .int) D Y A E 1 30 0 0 [.ref (ad 5)] (CR D Y A tE ad F G N Q sa ma) (some (.int (vX2_count F G N Q))) (CR D Y A tE ad F G N Q sa ma) := by
  refine KM_of RX2 [(0, .ref (ad 5))] rfl (by decide) hsl (Nat.le_of_ble_eq_true rfl) rfl (lok_of rfl rfl) ?_
  intro p e s m args below meth c C0
  show J p l e _ s m args below meth c A 1 _ (CO D Y A tE ad (F 0) (F 1) (F 2) (G 0) (G 1) (G 2) (G 3) (G 4) (G 5) (G 6) (G 7) (G 8) (G 9) (G 10) (G 11) (G 12) (G 13) (G 14) (G 15) (G 16) (G 17) (G 18) (G 19) (N 0) (N 1) (N 2) (Q 0) (Q 1) sa ma) 0 0 0 [(0, .ref (ad 5))] []
  refine c_fact (fun cel h => ci_f h) (fun hcf => ?_)
  obtain ⟨hn0, hn1, hn2, hq0, hq1⟩ := hcf
  refine j_aload_n C0 dX2_count_0 rfl ?_
  refine c_get C0 in_X2 (ci := 5) rfl 5 (fun cel h => ci_5 h) 0 (by decide) wf_X2_12 rfl dX2_count_1 ?_
  refine j_callVv C0 (kc_size hsl (fun cel h => ci_Q h)) mv_Jx4a65c_size_8abf5 wm_X2_18 (c_recv C0 (ci := 2) rfl 14 (fun cel h => ci_rQ h)) rfl rfl ⟨Nat.le_of_ble_eq_true rfl, Nat.le_of_ble_eq_true rfl⟩ (Nat.le_of_ble_eq_true rfl) ⟨Nat.le_refl _, Nat.le_refl _⟩ dX2_count_4 ?_
  exact j_iretE C0 rfl (by rw [vX2_count]) dX2_count_7 (fun H h => h)
/-! ## HarborTides$OrderQueue.at(I)LHarborTides$Ship; -/
set_option maxRecDepth 100000 in
set_option maxHeartbeats 4000000 in
theorem k_X2_at {l : Launch} (hsl : l.stackTraces = false) {D : va_G} {Y : Nat → ClassId} {A : Nat → Prop} {E : State → Prop} {tE : Nat} (ad : Nat → Nat) (F : Nat → Int32) (G : Nat → Nat → Int32) (N : Nat → Nat) (Q : Nat → Nat → Nat) (sa ma : Nat → Nat) (i : Nat)  (hi : i < N 2) : KM l yX2_at cX2_at 2 (some (.object "HarborTides$Ship")) D Y A E 3 90 0 0 [.ref (ad 5), .int (nI i)] (CR D Y A tE ad F G N Q sa ma) (some (.ref ((sa ((Q 0) i))))) (CR D Y A tE ad F G N Q sa ma) := by
  refine KM_of RX2 [(0, .ref (ad 5)), (1, .int (nI i))] rfl (by decide) hsl (Nat.le_of_ble_eq_true rfl) rfl (lok_of rfl rfl) ?_
  intro p e s m args below meth c C0
  show J p l e _ s m args below meth c A 2 _ (CO D Y A tE ad (F 0) (F 1) (F 2) (G 0) (G 1) (G 2) (G 3) (G 4) (G 5) (G 6) (G 7) (G 8) (G 9) (G 10) (G 11) (G 12) (G 13) (G 14) (G 15) (G 16) (G 17) (G 18) (G 19) (N 0) (N 1) (N 2) (Q 0) (Q 1) sa ma) 0 0 0 [(0, .ref (ad 5)), (1, .int (nI i))] []
  refine c_fact (fun cel h => ci_f h) (fun hcf => ?_)
  obtain ⟨hn0, hn1, hn2, hq0, hq1⟩ := hcf
  refine j_aload_n C0 dX2_at_0 rfl ?_
  refine c_get C0 in_X2 (ci := 5) rfl 5 (fun cel h => ci_5 h) 0 (by decide) wf_X2_12 rfl dX2_at_1 ?_
  refine j_iload_n C0 dX2_at_4 rfl ?_
  refine j_callVv C0 (kc_get hsl (fun cel h => ci_Q h) hn2 (i := i) (by omega)) mv_Jx4a65c_get_915e3 wm_X2_22 (c_recv C0 (ci := 2) rfl 14 (fun cel h => ci_rQ h)) rfl rfl ⟨Nat.le_of_ble_eq_true rfl, Nat.le_of_ble_eq_true rfl⟩ (Nat.le_of_ble_eq_true rfl) ⟨Nat.le_refl _, Nat.le_refl _⟩ dX2_at_5 ?_
  show J p l e _ s m args below meth c A 2 _ (CO D Y A tE ad (F 0) (F 1) (F 2) (G 0) (G 1) (G 2) (G 3) (G 4) (G 5) (G 6) (G 7) (G 8) (G 9) (G 10) (G 11) (G 12) (G 13) (G 14) (G 15) (G 16) (G 17) (G 18) (G 19) (N 0) (N 1) (N 2) (Q 0) (Q 1) sa ma) 0 0 8 [(0, .ref (ad 5)), (1, .int (nI i))] [.ref ((sa ((Q 0) i)))]
  refine c_castS C0 (ci := 7) rfl (20 + 2 * ((Q 0) i)) (fun cel h => ⟨_, ci_s h ((Q 0) i) (hq0 i (by omega))⟩) wc_X2_26 dX2_at_8 ?_
  exact j_aret C0 rfl (Or.inl ⟨_, rfl⟩) dX2_at_11 (fun H h => h)
/-! ## HarborTides$OrderQueue.placeOf(LHarborTides$Ship;)I -/
def bX2_placeOf_2 (F : Nat → Int32) (G : Nat → Nat → Int32) (N : Nat → Nat) (Q : Nat → Nat → Nat) (i2 : Nat) (j2 : Nat) (v2 : Unit) : (Unit) ⊕ (Nat) := (if ((Q 0) j2) = i2 then (.inr (j2)) else (.inl ()))
def vX2_placeOf (F : Nat → Int32) (G : Nat → Nat → Int32) (N : Nat → Nat) (Q : Nat → Nat → Nat) (i2 : Nat) : Int32 := (bkE (bk (bX2_placeOf_2 F G N Q i2) () ((N 2))) (fun w4 => (-1 : Int32)) (fun r6 => nI r6))
set_option maxRecDepth 100000 in
set_option maxHeartbeats 4000000 in
theorem k_X2_placeOf {l : Launch} (hsl : l.stackTraces = false) {D : va_G} {Y : Nat → ClassId} {A : Nat → Prop} {E : State → Prop} {tE : Nat} (ad : Nat → Nat) (F : Nat → Int32) (G : Nat → Nat → Int32) (N : Nat → Nat) (Q : Nat → Nat → Nat) (sa ma : Nat → Nat) (i2 : Nat) (hi2 : i2 < N 0)  : KM l yX2_placeOf cX2_placeOf 3 (some .int) D Y A E 3 90 0 0 [.ref (ad 5), .ref ((sa i2))] (CR D Y A tE ad F G N Q sa ma) (some (.int (vX2_placeOf F G N Q i2))) (CR D Y A tE ad F G N Q sa ma) := by
  refine KM_of RX2 [(0, .ref (ad 5)), (1, .ref ((sa i2)))] rfl (by decide) hsl (Nat.le_of_ble_eq_true rfl) rfl (lok_of rfl rfl) ?_
  intro p e s m args below meth c C0
  show J p l e _ s m args below meth c A 3 _ (CO D Y A tE ad (F 0) (F 1) (F 2) (G 0) (G 1) (G 2) (G 3) (G 4) (G 5) (G 6) (G 7) (G 8) (G 9) (G 10) (G 11) (G 12) (G 13) (G 14) (G 15) (G 16) (G 17) (G 18) (G 19) (N 0) (N 1) (N 2) (Q 0) (Q 1) sa ma) 0 0 0 [(0, .ref (ad 5)), (1, .ref ((sa i2)))] []
  refine c_fact (fun cel h => ci_f h) (fun hcf => ?_)
  obtain ⟨hn0, hn1, hn2, hq0, hq1⟩ := hcf
  refine j_iconst C0 (v := 0) dX2_placeOf_0 (by decide) ?_
  refine j_istore_n C0 (L' := [(0, .ref (ad 5)), (1, .ref ((sa i2))), (2, .int ((0 : Int32)))]) dX2_placeOf_1 (by decide) rfl ?_
  refine hb_bk _ _ (P := fun R0 Q0 (j : Nat) (v : Unit) => J p l e R0 s m args below meth c A 3 Q0 (CO D Y A tE ad (F 0) (F 1) (F 2) (G 0) (G 1) (G 2) (G 3) (G 4) (G 5) (G 6) (G 7) (G 8) (G 9) (G 10) (G 11) (G 12) (G 13) (G 14) (G 15) (G 16) (G 17) (G 18) (G 19) (N 0) (N 1) (N 2) (Q 0) (Q 1) sa ma) 0 0 2 [(0, .ref (ad 5)), (1, .ref ((sa i2))), (2, .int (nI j))] []) (RR := fun R0 Q0 => (fun (r0 : Nat) => J p l e R0 s m args below meth c A 3 Q0 (CO D Y A tE ad (F 0) (F 1) (F 2) (G 0) (G 1) (G 2) (G 3) (G 4) (G 5) (G 6) (G 7) (G 8) (G 9) (G 10) (G 11) (G 12) (G 13) (G 14) (G 15) (G 16) (G 17) (G 18) (G 19) (N 0) (N 1) (N 2) (Q 0) (Q 1) sa ma) 0 0 25 [(0, .ref (ad 5)), (1, .ref ((sa i2))), (2, .int (nI r0))] [])) (bX2_placeOf_2 F G N Q i2) () ((N 2)) ?_ ?_
  rotate_left
  ·
    intro j2 hj2 v2 hv2 K2
    clear hv2
    show J p l e _ s m args below meth c A 3 _ (CO D Y A tE ad (F 0) (F 1) (F 2) (G 0) (G 1) (G 2) (G 3) (G 4) (G 5) (G 6) (G 7) (G 8) (G 9) (G 10) (G 11) (G 12) (G 13) (G 14) (G 15) (G 16) (G 17) (G 18) (G 19) (N 0) (N 1) (N 2) (Q 0) (Q 1) sa ma) 0 0 2 [(0, .ref (ad 5)), (1, .ref ((sa i2))), (2, .int (nI j2))] []
    refine j_iload_n C0 dX2_placeOf_2 rfl ?_
    refine j_aload_n C0 dX2_placeOf_3 rfl ?_
    refine c_get C0 in_X2 (ci := 5) rfl 5 (fun cel h => ci_5 h) 0 (by decide) wf_X2_12 rfl dX2_placeOf_4 ?_
    refine j_callVv C0 (kc_size hsl (fun cel h => ci_Q h)) mv_Jx4a65c_size_8abf5 wm_X2_18 (c_recv C0 (ci := 2) rfl 14 (fun cel h => ci_rQ h)) rfl rfl ⟨Nat.le_of_ble_eq_true rfl, Nat.le_of_ble_eq_true rfl⟩ (Nat.le_of_ble_eq_true rfl) ⟨Nat.le_refl _, Nat.le_refl _⟩ dX2_placeOf_7 ?_
    refine j_icmp_ge C0 33 dX2_placeOf_10 (by decide) (fun z => absurd z (nI_ge hj2 (by omega))) (fun _ => ?_)
    refine j_aload_n C0 dX2_placeOf_13 rfl ?_
    refine c_get C0 in_X2 (ci := 5) rfl 5 (fun cel h => ci_5 h) 0 (by decide) wf_X2_12 rfl dX2_placeOf_14 ?_
    refine j_iload_n C0 dX2_placeOf_17 rfl ?_
    refine j_callVv C0 (kc_get hsl (fun cel h => ci_Q h) hn2 (i := j2) (by omega)) mv_Jx4a65c_get_915e3 wm_X2_22 (c_recv C0 (ci := 2) rfl 14 (fun cel h => ci_rQ h)) rfl rfl ⟨Nat.le_of_ble_eq_true rfl, Nat.le_of_ble_eq_true rfl⟩ (Nat.le_of_ble_eq_true rfl) ⟨Nat.le_refl _, Nat.le_refl _⟩ dX2_placeOf_18 ?_
    show J p l e _ s m args below meth c A 3 _ (CO D Y A tE ad (F 0) (F 1) (F 2) (G 0) (G 1) (G 2) (G 3) (G 4) (G 5) (G 6) (G 7) (G 8) (G 9) (G 10) (G 11) (G 12) (G 13) (G 14) (G 15) (G 16) (G 17) (G 18) (G 19) (N 0) (N 1) (N 2) (Q 0) (Q 1) sa ma) 0 0 21 [(0, .ref (ad 5)), (1, .ref ((sa i2))), (2, .int (nI j2))] [.ref ((sa ((Q 0) j2)))]
    refine j_aload_n C0 dX2_placeOf_21 rfl ?_
    refine c_fact2 (fun H h => co_inj h (hq0 j2 (by omega)) hi2) (fun hin => ?_)
    refine j_acmp_ne C0 27 dX2_placeOf_22 (by decide) (fun z => ?_) (fun z => ?_)
    ·
      have q2 : ¬ ((Q 0) j2) = i2 := fun y => z (congrArg sa y)
      refine j_iinc C0 (v := nI (j2 + 1)) (L' := [(0, .ref (ad 5)), (1, .ref ((sa i2))), (2, .int (nI (j2 + 1)))]) dX2_placeOf_27 rfl (nI_inc j2) (by decide) rfl ?_
      refine j_goto C0 2 dX2_placeOf_30 (by decide) ?_
      rw [bX2_placeOf_2, if_neg q2] at K2
      exact K2
    ·
      have q2 : ((Q 0) j2) = i2 := hin z
      rw [bX2_placeOf_2, if_pos q2] at K2
      exact K2
  cases hb3 : bk (bX2_placeOf_2 F G N Q i2) () ((N 2)) with
  | inl w4 =>
    show J p l e _ s m args below meth c A 3 _ (CO D Y A tE ad (F 0) (F 1) (F 2) (G 0) (G 1) (G 2) (G 3) (G 4) (G 5) (G 6) (G 7) (G 8) (G 9) (G 10) (G 11) (G 12) (G 13) (G 14) (G 15) (G 16) (G 17) (G 18) (G 19) (N 0) (N 1) (N 2) (Q 0) (Q 1) sa ma) 0 0 2 [(0, .ref (ad 5)), (1, .ref ((sa i2))), (2, .int (nI (((N 2)))))] []
    refine j_iload_n C0 dX2_placeOf_2 rfl ?_
    refine j_aload_n C0 dX2_placeOf_3 rfl ?_
    refine c_get C0 in_X2 (ci := 5) rfl 5 (fun cel h => ci_5 h) 0 (by decide) wf_X2_12 rfl dX2_placeOf_4 ?_
    refine j_callVv C0 (kc_size hsl (fun cel h => ci_Q h)) mv_Jx4a65c_size_8abf5 wm_X2_18 (c_recv C0 (ci := 2) rfl 14 (fun cel h => ci_rQ h)) rfl rfl ⟨Nat.le_of_ble_eq_true rfl, Nat.le_of_ble_eq_true rfl⟩ (Nat.le_of_ble_eq_true rfl) ⟨Nat.le_refl _, Nat.le_refl _⟩ dX2_placeOf_7 ?_
    refine j_icmp_ge C0 33 dX2_placeOf_10 (by decide) (fun _ => ?_) (fun z => absurd (nI_le (Nat.le_refl _) (by omega)) z)
    refine j_iconst C0 (v := -1) dX2_placeOf_33 (by decide) ?_
    exact j_iretE C0 rfl (by rw [vX2_placeOf, hb3, bkE_inl]) dX2_placeOf_34 (fun H h => h)
  | inr r6 =>
    show J p l e _ s m args below meth c A 3 _ (CO D Y A tE ad (F 0) (F 1) (F 2) (G 0) (G 1) (G 2) (G 3) (G 4) (G 5) (G 6) (G 7) (G 8) (G 9) (G 10) (G 11) (G 12) (G 13) (G 14) (G 15) (G 16) (G 17) (G 18) (G 19) (N 0) (N 1) (N 2) (Q 0) (Q 1) sa ma) 0 0 25 [(0, .ref (ad 5)), (1, .ref ((sa i2))), (2, .int (nI r6))] []
    refine j_iload_n C0 dX2_placeOf_25 rfl ?_
    exact j_iretE C0 rfl (by rw [vX2_placeOf, hb3, bkE_inr]) dX2_placeOf_26 (fun H h => h)
/-! ## HarborTides$Log.count()I -/
def vX0_count (F : Nat → Int32) (G : Nat → Nat → Int32) (N : Nat → Nat) (Q : Nat → Nat → Nat) : Int32 := nI (N 1)
set_option maxRecDepth 100000 in
set_option maxHeartbeats 4000000 in
theorem k_X0_count {l : Launch} (hsl : l.stackTraces = false) {D : va_G} {Y : Nat → ClassId} {A : Nat → Prop} {E : State → Prop} {tE : Nat} (ad : Nat → Nat) (F : Nat → Int32) (G : Nat → Nat → Int32) (N : Nat → Nat) (Q : Nat → Nat → Nat) (sa ma : Nat → Nat)    : KM l yX0_count cX0_count 1 (some .int) D Y A E 1 30 0 0 [.ref (ad 3)] (CR D Y A tE ad F G N Q sa ma) (some (.int (vX0_count F G N Q))) (CR D Y A tE ad F G N Q sa ma) := by
  refine KM_of RX0 [(0, .ref (ad 3))] rfl (by decide) hsl (Nat.le_of_ble_eq_true rfl) rfl (lok_of rfl rfl) ?_
  intro p e s m args below meth c C0
  show J p l e _ s m args below meth c A 1 _ (CO D Y A tE ad (F 0) (F 1) (F 2) (G 0) (G 1) (G 2) (G 3) (G 4) (G 5) (G 6) (G 7) (G 8) (G 9) (G 10) (G 11) (G 12) (G 13) (G 14) (G 15) (G 16) (G 17) (G 18) (G 19) (N 0) (N 1) (N 2) (Q 0) (Q 1) sa ma) 0 0 0 [(0, .ref (ad 3))] []
  refine c_fact (fun cel h => ci_f h) (fun hcf => ?_)
  obtain ⟨hn0, hn1, hn2, hq0, hq1⟩ := hcf
  refine j_aload_n C0 dX0_count_0 rfl ?_
  refine c_get C0 in_X0 (ci := 3) rfl 3 (fun cel h => ci_3 h) 0 (by decide) wf_X0_12 rfl dX0_count_1 ?_
  refine j_callVv C0 (kc_size hsl (fun cel h => ci_M h)) mv_Jx4a65c_size_8abf5 wm_X0_18 (c_recv C0 (ci := 2) rfl 12 (fun cel h => ci_rM h)) rfl rfl ⟨Nat.le_of_ble_eq_true rfl, Nat.le_of_ble_eq_true rfl⟩ (Nat.le_of_ble_eq_true rfl) ⟨Nat.le_refl _, Nat.le_refl _⟩ dX0_count_4 ?_
  exact j_iretE C0 rfl (by rw [vX0_count]) dX0_count_7 (fun H h => h)
/-! ## HarborTides$Log.at(I)LHarborTides$Move; -/
set_option maxRecDepth 100000 in
set_option maxHeartbeats 4000000 in
theorem k_X0_at {l : Launch} (hsl : l.stackTraces = false) {D : va_G} {Y : Nat → ClassId} {A : Nat → Prop} {E : State → Prop} {tE : Nat} (ad : Nat → Nat) (F : Nat → Int32) (G : Nat → Nat → Int32) (N : Nat → Nat) (Q : Nat → Nat → Nat) (sa ma : Nat → Nat) (i : Nat)  (hi : i < N 1) : KM l yX0_at cX0_at 2 (some (.object "HarborTides$Move")) D Y A E 3 90 0 0 [.ref (ad 3), .int (nI i)] (CR D Y A tE ad F G N Q sa ma) (some (.ref ((ma i)))) (CR D Y A tE ad F G N Q sa ma) := by
  refine KM_of RX0 [(0, .ref (ad 3)), (1, .int (nI i))] rfl (by decide) hsl (Nat.le_of_ble_eq_true rfl) rfl (lok_of rfl rfl) ?_
  intro p e s m args below meth c C0
  show J p l e _ s m args below meth c A 2 _ (CO D Y A tE ad (F 0) (F 1) (F 2) (G 0) (G 1) (G 2) (G 3) (G 4) (G 5) (G 6) (G 7) (G 8) (G 9) (G 10) (G 11) (G 12) (G 13) (G 14) (G 15) (G 16) (G 17) (G 18) (G 19) (N 0) (N 1) (N 2) (Q 0) (Q 1) sa ma) 0 0 0 [(0, .ref (ad 3)), (1, .int (nI i))] []
  refine c_fact (fun cel h => ci_f h) (fun hcf => ?_)
  obtain ⟨hn0, hn1, hn2, hq0, hq1⟩ := hcf
  refine j_aload_n C0 dX0_at_0 rfl ?_
  refine c_get C0 in_X0 (ci := 3) rfl 3 (fun cel h => ci_3 h) 0 (by decide) wf_X0_12 rfl dX0_at_1 ?_
  refine j_iload_n C0 dX0_at_4 rfl ?_
  refine j_callVv C0 (kc_get hsl (fun cel h => ci_M h) hn1 (i := i) (by omega)) mv_Jx4a65c_get_915e3 wm_X0_22 (c_recv C0 (ci := 2) rfl 12 (fun cel h => ci_rM h)) rfl rfl ⟨Nat.le_of_ble_eq_true rfl, Nat.le_of_ble_eq_true rfl⟩ (Nat.le_of_ble_eq_true rfl) ⟨Nat.le_refl _, Nat.le_refl _⟩ dX0_at_5 ?_
  show J p l e _ s m args below meth c A 2 _ (CO D Y A tE ad (F 0) (F 1) (F 2) (G 0) (G 1) (G 2) (G 3) (G 4) (G 5) (G 6) (G 7) (G 8) (G 9) (G 10) (G 11) (G 12) (G 13) (G 14) (G 15) (G 16) (G 17) (G 18) (G 19) (N 0) (N 1) (N 2) (Q 0) (Q 1) sa ma) 0 0 8 [(0, .ref (ad 3)), (1, .int (nI i))] [.ref ((ma i))]
  refine c_castS C0 (ci := 4) rfl (21 + 2 * i) (fun cel h => ⟨_, ci_m h i (by omega)⟩) wc_X0_26 dX0_at_8 ?_
  exact j_aret C0 rfl (Or.inl ⟨_, rfl⟩) dX0_at_11 (fun H h => h)
/-! ## HarborTides$Log.hasMoveAt(I)Z -/
def bX0_hasMoveAt_2 (F : Nat → Int32) (G : Nat → Nat → Int32) (N : Nat → Nat) (Q : Nat → Nat → Nat) (a1 : Int32) (j2 : Nat) (v2 : Unit) : (Unit) ⊕ (Unit) := (if ((G 9) ((Q 1) j2)) = a1 then (.inr ()) else (.inl ()))
def vX0_hasMoveAt (F : Nat → Int32) (G : Nat → Nat → Int32) (N : Nat → Nat) (Q : Nat → Nat → Nat) (a1 : Int32) : Int32 := (bkE (bk (bX0_hasMoveAt_2 F G N Q a1) () ((N 1))) (fun w4 => (0 : Int32)) (fun r6 => (1 : Int32)))
set_option maxRecDepth 100000 in
set_option maxHeartbeats 4000000 in
theorem k_X0_hasMoveAt {l : Launch} (hsl : l.stackTraces = false) {D : va_G} {Y : Nat → ClassId} {A : Nat → Prop} {E : State → Prop} {tE : Nat} (ad : Nat → Nat) (F : Nat → Int32) (G : Nat → Nat → Int32) (N : Nat → Nat) (Q : Nat → Nat → Nat) (sa ma : Nat → Nat) (a1 : Int32)   : KM l yX0_hasMoveAt cX0_hasMoveAt 3 (some .boolean) D Y A E 3 90 0 0 [.ref (ad 3), .int (a1)] (CR D Y A tE ad F G N Q sa ma) (some (.int (vX0_hasMoveAt F G N Q a1))) (CR D Y A tE ad F G N Q sa ma) := by
  refine KM_of RX0 [(0, .ref (ad 3)), (1, .int (a1))] rfl (by decide) hsl (Nat.le_of_ble_eq_true rfl) rfl (lok_of rfl rfl) ?_
  intro p e s m args below meth c C0
  show J p l e _ s m args below meth c A 3 _ (CO D Y A tE ad (F 0) (F 1) (F 2) (G 0) (G 1) (G 2) (G 3) (G 4) (G 5) (G 6) (G 7) (G 8) (G 9) (G 10) (G 11) (G 12) (G 13) (G 14) (G 15) (G 16) (G 17) (G 18) (G 19) (N 0) (N 1) (N 2) (Q 0) (Q 1) sa ma) 0 0 0 [(0, .ref (ad 3)), (1, .int (a1))] []
  refine c_fact (fun cel h => ci_f h) (fun hcf => ?_)
  obtain ⟨hn0, hn1, hn2, hq0, hq1⟩ := hcf
  refine j_iconst C0 (v := 0) dX0_hasMoveAt_0 (by decide) ?_
  refine j_istore_n C0 (L' := [(0, .ref (ad 3)), (1, .int (a1)), (2, .int ((0 : Int32)))]) dX0_hasMoveAt_1 (by decide) rfl ?_
  refine hb_bk _ _ (P := fun R0 Q0 (j : Nat) (v : Unit) => J p l e R0 s m args below meth c A 3 Q0 (CO D Y A tE ad (F 0) (F 1) (F 2) (G 0) (G 1) (G 2) (G 3) (G 4) (G 5) (G 6) (G 7) (G 8) (G 9) (G 10) (G 11) (G 12) (G 13) (G 14) (G 15) (G 16) (G 17) (G 18) (G 19) (N 0) (N 1) (N 2) (Q 0) (Q 1) sa ma) 0 0 2 [(0, .ref (ad 3)), (1, .int (a1)), (2, .int (nI j))] []) (RR := fun R0 Q0 => (fun (r0 : Unit) => J p l e R0 s m args below meth c A 3 Q0 (CO D Y A tE ad (F 0) (F 1) (F 2) (G 0) (G 1) (G 2) (G 3) (G 4) (G 5) (G 6) (G 7) (G 8) (G 9) (G 10) (G 11) (G 12) (G 13) (G 14) (G 15) (G 16) (G 17) (G 18) (G 19) (N 0) (N 1) (N 2) (Q 0) (Q 1) sa ma) 0 0 34 [(0, .ref (ad 3)), (1, .int (a1))] [])) (bX0_hasMoveAt_2 F G N Q a1) () ((N 1)) ?_ ?_
  rotate_left
  ·
    intro j2 hj2 v2 hv2 K2
    clear hv2
    show J p l e _ s m args below meth c A 3 _ (CO D Y A tE ad (F 0) (F 1) (F 2) (G 0) (G 1) (G 2) (G 3) (G 4) (G 5) (G 6) (G 7) (G 8) (G 9) (G 10) (G 11) (G 12) (G 13) (G 14) (G 15) (G 16) (G 17) (G 18) (G 19) (N 0) (N 1) (N 2) (Q 0) (Q 1) sa ma) 0 0 2 [(0, .ref (ad 3)), (1, .int (a1)), (2, .int (nI j2))] []
    refine j_iload_n C0 dX0_hasMoveAt_2 rfl ?_
    refine j_aload_n C0 dX0_hasMoveAt_3 rfl ?_
    refine c_get C0 in_X0 (ci := 3) rfl 3 (fun cel h => ci_3 h) 0 (by decide) wf_X0_12 rfl dX0_hasMoveAt_4 ?_
    refine j_callVv C0 (kc_size hsl (fun cel h => ci_M h)) mv_Jx4a65c_size_8abf5 wm_X0_18 (c_recv C0 (ci := 2) rfl 12 (fun cel h => ci_rM h)) rfl rfl ⟨Nat.le_of_ble_eq_true rfl, Nat.le_of_ble_eq_true rfl⟩ (Nat.le_of_ble_eq_true rfl) ⟨Nat.le_refl _, Nat.le_refl _⟩ dX0_hasMoveAt_7 ?_
    refine j_icmp_ge C0 42 dX0_hasMoveAt_10 (by decide) (fun z => absurd z (nI_ge hj2 (by omega))) (fun _ => ?_)
    refine j_aload_n C0 dX0_hasMoveAt_13 rfl ?_
    refine c_get C0 in_X0 (ci := 3) rfl 3 (fun cel h => ci_3 h) 0 (by decide) wf_X0_12 rfl dX0_hasMoveAt_14 ?_
    refine j_iload_n C0 dX0_hasMoveAt_17 rfl ?_
    refine j_callVv C0 (kc_get hsl (fun cel h => ci_M h) hn1 (i := j2) (by omega)) mv_Jx4a65c_get_915e3 wm_X0_22 (c_recv C0 (ci := 2) rfl 12 (fun cel h => ci_rM h)) rfl rfl ⟨Nat.le_of_ble_eq_true rfl, Nat.le_of_ble_eq_true rfl⟩ (Nat.le_of_ble_eq_true rfl) ⟨Nat.le_refl _, Nat.le_refl _⟩ dX0_hasMoveAt_18 ?_
    show J p l e _ s m args below meth c A 3 _ (CO D Y A tE ad (F 0) (F 1) (F 2) (G 0) (G 1) (G 2) (G 3) (G 4) (G 5) (G 6) (G 7) (G 8) (G 9) (G 10) (G 11) (G 12) (G 13) (G 14) (G 15) (G 16) (G 17) (G 18) (G 19) (N 0) (N 1) (N 2) (Q 0) (Q 1) sa ma) 0 0 21 [(0, .ref (ad 3)), (1, .int (a1)), (2, .int (nI j2))] [.ref ((ma j2))]
    refine c_castS C0 (ci := 4) rfl (21 + 2 * j2) (fun cel h => ⟨_, ci_m h j2 (by omega)⟩) wc_X0_26 dX0_hasMoveAt_21 ?_
    refine c_get C0 in_X1 (ci := 4) rfl (21 + 2 * j2) (fun cel h => ci_m h j2 (by omega)) 1 (by decide) wf_X0_32 (v := .ref ((sa ((Q 1) j2)))) rfl dX0_hasMoveAt_24 ?_
    refine c_get C0 in_X4 (ci := 7) rfl (20 + 2 * ((Q 1) j2)) (fun cel h => ci_s h ((Q 1) j2) (hq1 j2 (by omega))) 4 (by decide) wf_X0_36 (v := .int (((G 9) ((Q 1) j2)))) rfl dX0_hasMoveAt_27 ?_
    refine j_iload_n C0 dX0_hasMoveAt_30 rfl ?_
    refine j_icmp_ne C0 36 dX0_hasMoveAt_31 (by decide) (fun (q2 : ¬ (((G 9) ((Q 1) j2)) = a1)) => ?_) (fun (q2 : ((G 9) ((Q 1) j2)) = a1) => ?_)
    ·
      refine j_iinc C0 (v := nI (j2 + 1)) (L' := [(0, .ref (ad 3)), (1, .int (a1)), (2, .int (nI (j2 + 1)))]) dX0_hasMoveAt_36 rfl (nI_inc j2) (by decide) rfl ?_
      refine j_goto C0 2 dX0_hasMoveAt_39 (by decide) ?_
      rw [bX0_hasMoveAt_2, if_neg q2] at K2
      exact K2
    ·
      rw [bX0_hasMoveAt_2, if_pos q2] at K2
      refine j_locals (L' := [(0, .ref (ad 3)), (1, .int (a1))]) (fun q hq => by simp only [List.mem_cons, List.mem_nil_iff, or_false] at hq ⊢; rcases hq with rfl | rfl <;> simp) (lok_of rfl rfl) ?_
      exact K2
  cases hb3 : bk (bX0_hasMoveAt_2 F G N Q a1) () ((N 1)) with
  | inl w4 =>
    show J p l e _ s m args below meth c A 3 _ (CO D Y A tE ad (F 0) (F 1) (F 2) (G 0) (G 1) (G 2) (G 3) (G 4) (G 5) (G 6) (G 7) (G 8) (G 9) (G 10) (G 11) (G 12) (G 13) (G 14) (G 15) (G 16) (G 17) (G 18) (G 19) (N 0) (N 1) (N 2) (Q 0) (Q 1) sa ma) 0 0 2 [(0, .ref (ad 3)), (1, .int (a1)), (2, .int (nI (((N 1)))))] []
    refine j_iload_n C0 dX0_hasMoveAt_2 rfl ?_
    refine j_aload_n C0 dX0_hasMoveAt_3 rfl ?_
    refine c_get C0 in_X0 (ci := 3) rfl 3 (fun cel h => ci_3 h) 0 (by decide) wf_X0_12 rfl dX0_hasMoveAt_4 ?_
    refine j_callVv C0 (kc_size hsl (fun cel h => ci_M h)) mv_Jx4a65c_size_8abf5 wm_X0_18 (c_recv C0 (ci := 2) rfl 12 (fun cel h => ci_rM h)) rfl rfl ⟨Nat.le_of_ble_eq_true rfl, Nat.le_of_ble_eq_true rfl⟩ (Nat.le_of_ble_eq_true rfl) ⟨Nat.le_refl _, Nat.le_refl _⟩ dX0_hasMoveAt_7 ?_
    refine j_icmp_ge C0 42 dX0_hasMoveAt_10 (by decide) (fun _ => ?_) (fun z => absurd (nI_le (Nat.le_refl _) (by omega)) z)
    refine j_iconst C0 (v := 0) dX0_hasMoveAt_42 (by decide) ?_
    exact j_zretE C0 rfl (by rw [vX0_hasMoveAt, hb3, bkE_inl]) (by decide) dX0_hasMoveAt_43 (fun H h => h)
  | inr r6 =>
    show J p l e _ s m args below meth c A 3 _ (CO D Y A tE ad (F 0) (F 1) (F 2) (G 0) (G 1) (G 2) (G 3) (G 4) (G 5) (G 6) (G 7) (G 8) (G 9) (G 10) (G 11) (G 12) (G 13) (G 14) (G 15) (G 16) (G 17) (G 18) (G 19) (N 0) (N 1) (N 2) (Q 0) (Q 1) sa ma) 0 0 34 [(0, .ref (ad 3)), (1, .int (a1))] []
    refine j_iconst C0 (v := 1) dX0_hasMoveAt_34 (by decide) ?_
    exact j_zretE C0 rfl (by rw [vX0_hasMoveAt, hb3, bkE_inr]) (by decide) dX0_hasMoveAt_35 (fun H h => h)
/-! ## HarborTides$Log.pilotIsReady(III)Z -/
def bX0_pilotIsReady_18 (F : Nat → Int32) (G : Nat → Nat → Int32) (N : Nat → Nat) (Q : Nat → Nat → Nat) (a1 : Int32) (a2 : Int32) (f : Nat) (j18 : Nat) (v18 : Int32) : (Int32) ⊕ ((Int32) ⊕ (Unit)) := (if (a2 - ((G 16) (f - 1 - j18))) < (24 : Int32) then (if ((G 18) (f - 1 - j18)) = a1 then (if (6 : Int32) ≤ (a2 - ((G 16) (f - 1 - j18))) then (.inl ((v18 + Int32.ofInt (1)))) else (.inr (.inr ()))) else (.inl (v18))) else (.inr (.inl (v18))))
def vX0_pilotIsReady (F : Nat → Int32) (G : Nat → Nat → Int32) (N : Nat → Nat) (Q : Nat → Nat → Nat) (a1 : Int32) (a2 : Int32) (f : Nat) : Int32 := (bkE (bk (bX0_pilotIsReady_18 F G N Q a1 a2 f) ((0 : Int32)) (f)) (fun w6 => (if (3 : Int32) ≤ w6 then (0 : Int32) else (1 : Int32))) (fun r9 => (bkE r9 (fun r10 => (if (3 : Int32) ≤ r10 then (0 : Int32) else (1 : Int32))) (fun r11 => (0 : Int32)))))
set_option maxRecDepth 100000 in
set_option maxHeartbeats 4000000 in
theorem k_X0_pilotIsReady {l : Launch} (hsl : l.stackTraces = false) {D : va_G} {Y : Nat → ClassId} {A : Nat → Prop} {E : State → Prop} {tE : Nat} (ad : Nat → Nat) (F : Nat → Int32) (G : Nat → Nat → Int32) (N : Nat → Nat) (Q : Nat → Nat → Nat) (sa ma : Nat → Nat) (a1 : Int32) (a2 : Int32) (f : Nat)  (hf : f ≤ N 1) : KM l yX0_pilotIsReady cX0_pilotIsReady 8 (some .boolean) D Y A E 3 90 0 0 [.ref (ad 3), .int (a1), .int (a2), .int (nI f)] (CR D Y A tE ad F G N Q sa ma) (some (.int (vX0_pilotIsReady F G N Q a1 a2 f))) (CR D Y A tE ad F G N Q sa ma) := by
  refine KM_of RX0 [(0, .ref (ad 3)), (1, .int (a1)), (2, .int (a2)), (3, .int (nI f))] rfl (by decide) hsl (Nat.le_of_ble_eq_true rfl) rfl (lok_of rfl rfl) ?_
  intro p e s m args below meth c C0
  show J p l e _ s m args below meth c A 8 _ (CO D Y A tE ad (F 0) (F 1) (F 2) (G 0) (G 1) (G 2) (G 3) (G 4) (G 5) (G 6) (G 7) (G 8) (G 9) (G 10) (G 11) (G 12) (G 13) (G 14) (G 15) (G 16) (G 17) (G 18) (G 19) (N 0) (N 1) (N 2) (Q 0) (Q 1) sa ma) 0 0 0 [(0, .ref (ad 3)), (1, .int (a1)), (2, .int (a2)), (3, .int (nI f))] []
  refine c_fact (fun cel h => ci_f h) (fun hcf => ?_)
  obtain ⟨hn0, hn1, hn2, hq0, hq1⟩ := hcf
  refine j_iconst C0 (v := 0) dX0_pilotIsReady_0 (by decide) ?_
  refine j_istore C0 (L' := [(0, .ref (ad 3)), (1, .int (a1)), (2, .int (a2)), (3, .int (nI f)), (4, .int ((0 : Int32)))]) dX0_pilotIsReady_1 (by decide) rfl ?_
  refine j_iload_n C0 dX0_pilotIsReady_3 rfl ?_
  refine j_aload_n C0 dX0_pilotIsReady_4 rfl ?_
  refine c_get C0 in_X0 (ci := 3) rfl 3 (fun cel h => ci_3 h) 0 (by decide) wf_X0_12 rfl dX0_pilotIsReady_5 ?_
  refine j_callVv C0 (kc_size hsl (fun cel h => ci_M h)) mv_Jx4a65c_size_8abf5 wm_X0_18 (c_recv C0 (ci := 2) rfl 12 (fun cel h => ci_rM h)) rfl rfl ⟨Nat.le_of_ble_eq_true rfl, Nat.le_of_ble_eq_true rfl⟩ (Nat.le_of_ble_eq_true rfl) ⟨Nat.le_refl _, Nat.le_refl _⟩ dX0_pilotIsReady_8 ?_
  refine j_mmin C0 wm_X0_42 w_min_st w_math w_min_co (Nat.le_of_ble_eq_true rfl) (Nat.le_of_ble_eq_true rfl) (Nat.le_refl _) (Nat.le_refl _) dX0_pilotIsReady_11 ?_
  refine j_top (nI f) (mn_e hf hn1) ?_
  refine j_iconst C0 (v := 1) dX0_pilotIsReady_14 (by decide) ?_
  refine j_isub C0 dX0_pilotIsReady_15 ?_
  refine j_istore C0 (L' := [(0, .ref (ad 3)), (1, .int (a1)), (2, .int (a2)), (3, .int (nI f)), (4, .int ((0 : Int32))), (5, .int ((nI f - (1 : Int32))))]) dX0_pilotIsReady_16 (by decide) rfl ?_
  refine j_castL (L' := [(0, .ref (ad 3)), (1, .int (a1)), (2, .int (a2)), (3, .int (nI f)), (4, .int ((0 : Int32))), (5, .int ((nI f - 1 - nI (0))))]) (by rw [nI_0, Int32.sub_zero]) ?_
  refine hb_bk _ _ (P := fun R0 Q0 (j : Nat) (v : Int32) => J p l e R0 s m args below meth c A 8 Q0 (CO D Y A tE ad (F 0) (F 1) (F 2) (G 0) (G 1) (G 2) (G 3) (G 4) (G 5) (G 6) (G 7) (G 8) (G 9) (G 10) (G 11) (G 12) (G 13) (G 14) (G 15) (G 16) (G 17) (G 18) (G 19) (N 0) (N 1) (N 2) (Q 0) (Q 1) sa ma) 0 0 18 [(0, .ref (ad 3)), (1, .int (a1)), (2, .int (a2)), (3, .int (nI f)), (4, .int (v)), (5, .int ((nI f - 1 - nI (j))))] []) (RR := fun R0 Q0 => (bkK (fun (r0 : Int32) => J p l e R0 s m args below meth c A 8 Q0 (CO D Y A tE ad (F 0) (F 1) (F 2) (G 0) (G 1) (G 2) (G 3) (G 4) (G 5) (G 6) (G 7) (G 8) (G 9) (G 10) (G 11) (G 12) (G 13) (G 14) (G 15) (G 16) (G 17) (G 18) (G 19) (N 0) (N 1) (N 2) (Q 0) (Q 1) sa ma) 0 0 83 [(0, .ref (ad 3)), (1, .int (a1)), (2, .int (a2)), (3, .int (nI f)), (4, .int (r0))] []) (fun (r1 : Unit) => J p l e R0 s m args below meth c A 8 Q0 (CO D Y A tE ad (F 0) (F 1) (F 2) (G 0) (G 1) (G 2) (G 3) (G 4) (G 5) (G 6) (G 7) (G 8) (G 9) (G 10) (G 11) (G 12) (G 13) (G 14) (G 15) (G 16) (G 17) (G 18) (G 19) (N 0) (N 1) (N 2) (Q 0) (Q 1) sa ma) 0 0 72 [(0, .ref (ad 3)), (1, .int (a1)), (2, .int (a2)), (3, .int (nI f))] []))) (bX0_pilotIsReady_18 F G N Q a1 a2 f) ((0 : Int32)) (f) ?_ ?_
  rotate_left
  ·
    intro j18 hj18 v18 hv18 K18
    clear hv18
    show J p l e _ s m args below meth c A 8 _ (CO D Y A tE ad (F 0) (F 1) (F 2) (G 0) (G 1) (G 2) (G 3) (G 4) (G 5) (G 6) (G 7) (G 8) (G 9) (G 10) (G 11) (G 12) (G 13) (G 14) (G 15) (G 16) (G 17) (G 18) (G 19) (N 0) (N 1) (N 2) (Q 0) (Q 1) sa ma) 0 0 18 [(0, .ref (ad 3)), (1, .int (a1)), (2, .int (a2)), (3, .int (nI f)), (4, .int (v18)), (5, .int ((nI f - 1 - nI (j18))))] []
    refine j_iload C0 dX0_pilotIsReady_18 rfl ?_
    refine j_if_lt C0 83 dX0_pilotIsReady_20 (by decide) (fun z => absurd z (pd_pos hj18 (by omega))) (fun _ => ?_)
    refine j_aload_n C0 dX0_pilotIsReady_23 rfl ?_
    refine c_get C0 in_X0 (ci := 3) rfl 3 (fun cel h => ci_3 h) 0 (by decide) wf_X0_12 rfl dX0_pilotIsReady_24 ?_
    refine j_iload C0 dX0_pilotIsReady_27 rfl ?_
    refine j_top (nI (f - 1 - j18)) (pd_eq hj18) ?_
    refine j_callVv C0 (kc_get hsl (fun cel h => ci_M h) hn1 (i := (f - 1 - j18)) (by omega)) mv_Jx4a65c_get_915e3 wm_X0_22 (c_recv C0 (ci := 2) rfl 12 (fun cel h => ci_rM h)) rfl rfl ⟨Nat.le_of_ble_eq_true rfl, Nat.le_of_ble_eq_true rfl⟩ (Nat.le_of_ble_eq_true rfl) ⟨Nat.le_refl _, Nat.le_refl _⟩ dX0_pilotIsReady_29 ?_
    show J p l e _ s m args below meth c A 8 _ (CO D Y A tE ad (F 0) (F 1) (F 2) (G 0) (G 1) (G 2) (G 3) (G 4) (G 5) (G 6) (G 7) (G 8) (G 9) (G 10) (G 11) (G 12) (G 13) (G 14) (G 15) (G 16) (G 17) (G 18) (G 19) (N 0) (N 1) (N 2) (Q 0) (Q 1) sa ma) 0 0 32 [(0, .ref (ad 3)), (1, .int (a1)), (2, .int (a2)), (3, .int (nI f)), (4, .int (v18)), (5, .int ((nI f - 1 - nI (j18))))] [.ref ((ma (f - 1 - j18)))]
    refine c_castS C0 (ci := 4) rfl (21 + 2 * (f - 1 - j18)) (fun cel h => ⟨_, ci_m h (f - 1 - j18) (by omega)⟩) wc_X0_26 dX0_pilotIsReady_32 ?_
    refine j_astore C0 (L' := [(0, .ref (ad 3)), (1, .int (a1)), (2, .int (a2)), (3, .int (nI f)), (4, .int (v18)), (5, .int ((nI f - 1 - nI (j18)))), (6, .ref ((ma (f - 1 - j18))))]) dX0_pilotIsReady_35 (by decide) rfl ?_
    refine j_iload_n C0 dX0_pilotIsReady_37 rfl ?_
    refine j_aload C0 dX0_pilotIsReady_38 rfl ?_
    refine c_get C0 in_X1 (ci := 4) rfl (21 + 2 * (f - 1 - j18)) (fun cel h => ci_m h (f - 1 - j18) (by omega)) 0 (by decide) wf_X0_48 (v := .int (((G 16) (f - 1 - j18)))) rfl dX0_pilotIsReady_40 ?_
    refine j_isub C0 dX0_pilotIsReady_43 ?_
    refine j_istore C0 (L' := [(0, .ref (ad 3)), (1, .int (a1)), (2, .int (a2)), (3, .int (nI f)), (4, .int (v18)), (5, .int ((nI f - 1 - nI (j18)))), (6, .ref ((ma (f - 1 - j18)))), (7, .int ((a2 - ((G 16) (f - 1 - j18)))))]) dX0_pilotIsReady_44 (by decide) rfl ?_
    refine j_iload C0 dX0_pilotIsReady_46 rfl ?_
    refine j_bipush C0 (v := 24) dX0_pilotIsReady_48 (by decide) ?_
    refine j_icmp_lt C0 56 dX0_pilotIsReady_50 (by decide) (fun (q2 : (a2 - ((G 16) (f - 1 - j18))) < (24 : Int32)) => ?_) (fun (q2 : ¬ ((a2 - ((G 16) (f - 1 - j18))) < (24 : Int32))) => ?_)
    ·
      refine j_aload C0 dX0_pilotIsReady_56 rfl ?_
      refine c_get C0 in_X1 (ci := 4) rfl (21 + 2 * (f - 1 - j18)) (fun cel h => ci_m h (f - 1 - j18) (by omega)) 3 (by decide) wf_X0_51 (v := .int (((G 18) (f - 1 - j18)))) rfl dX0_pilotIsReady_58 ?_
      refine j_iload_n C0 dX0_pilotIsReady_61 rfl ?_
      refine j_icmp_ne C0 77 dX0_pilotIsReady_62 (by decide) (fun (q3 : ¬ (((G 18) (f - 1 - j18)) = a1)) => ?_) (fun (q3 : ((G 18) (f - 1 - j18)) = a1) => ?_)
      ·
        refine j_iinc C0 (v := (nI f - 1 - nI (j18 + 1))) (L' := [(0, .ref (ad 3)), (1, .int (a1)), (2, .int (a2)), (3, .int (nI f)), (4, .int (v18)), (5, .int ((nI f - 1 - nI (j18 + 1)))), (6, .ref ((ma (f - 1 - j18)))), (7, .int ((a2 - ((G 16) (f - 1 - j18)))))]) dX0_pilotIsReady_77 rfl (pd_inc _ j18) (by decide) rfl ?_
        refine j_goto C0 18 dX0_pilotIsReady_80 (by decide) ?_
        rw [bX0_pilotIsReady_18, if_pos q2, if_neg q3] at K18
        refine j_locals (L' := [(0, .ref (ad 3)), (1, .int (a1)), (2, .int (a2)), (3, .int (nI f)), (4, .int (v18)), (5, .int ((nI f - 1 - nI (j18 + 1))))]) (fun q hq => by simp only [List.mem_cons, List.mem_nil_iff, or_false] at hq ⊢; rcases hq with rfl | rfl | rfl | rfl | rfl | rfl <;> simp) (lok_of rfl rfl) ?_
        exact K18
      ·
        refine j_iload C0 dX0_pilotIsReady_65 rfl ?_
        refine j_bipush C0 (v := 6) dX0_pilotIsReady_67 (by decide) ?_
        refine j_icmp_ge C0 74 dX0_pilotIsReady_69 (by decide) (fun (q4 : (6 : Int32) ≤ (a2 - ((G 16) (f - 1 - j18)))) => ?_) (fun (q4 : ¬ ((6 : Int32) ≤ (a2 - ((G 16) (f - 1 - j18))))) => ?_)
        ·
          refine j_iinc C0 (v := (v18 + Int32.ofInt (1))) (L' := [(0, .ref (ad 3)), (1, .int (a1)), (2, .int (a2)), (3, .int (nI f)), (4, .int ((v18 + Int32.ofInt (1)))), (5, .int ((nI f - 1 - nI (j18)))), (6, .ref ((ma (f - 1 - j18)))), (7, .int ((a2 - ((G 16) (f - 1 - j18)))))]) dX0_pilotIsReady_74 rfl rfl (by decide) rfl ?_
          refine j_iinc C0 (v := (nI f - 1 - nI (j18 + 1))) (L' := [(0, .ref (ad 3)), (1, .int (a1)), (2, .int (a2)), (3, .int (nI f)), (4, .int ((v18 + Int32.ofInt (1)))), (5, .int ((nI f - 1 - nI (j18 + 1)))), (6, .ref ((ma (f - 1 - j18)))), (7, .int ((a2 - ((G 16) (f - 1 - j18)))))]) dX0_pilotIsReady_77 rfl (pd_inc _ j18) (by decide) rfl ?_
          refine j_goto C0 18 dX0_pilotIsReady_80 (by decide) ?_
          rw [bX0_pilotIsReady_18, if_pos q2, if_pos q3, if_pos q4] at K18
          refine j_locals (L' := [(0, .ref (ad 3)), (1, .int (a1)), (2, .int (a2)), (3, .int (nI f)), (4, .int ((v18 + Int32.ofInt (1)))), (5, .int ((nI f - 1 - nI (j18 + 1))))]) (fun q hq => by simp only [List.mem_cons, List.mem_nil_iff, or_false] at hq ⊢; rcases hq with rfl | rfl | rfl | rfl | rfl | rfl <;> simp) (lok_of rfl rfl) ?_
          exact K18
        ·
          rw [bX0_pilotIsReady_18, if_pos q2, if_pos q3, if_neg q4] at K18
          refine j_locals (L' := [(0, .ref (ad 3)), (1, .int (a1)), (2, .int (a2)), (3, .int (nI f))]) (fun q hq => by simp only [List.mem_cons, List.mem_nil_iff, or_false] at hq ⊢; rcases hq with rfl | rfl | rfl | rfl <;> simp) (lok_of rfl rfl) ?_
          exact K18
    ·
      refine j_goto C0 83 dX0_pilotIsReady_53 (by decide) ?_
      rw [bX0_pilotIsReady_18, if_neg q2] at K18
      refine j_locals (L' := [(0, .ref (ad 3)), (1, .int (a1)), (2, .int (a2)), (3, .int (nI f)), (4, .int (v18))]) (fun q hq => by simp only [List.mem_cons, List.mem_nil_iff, or_false] at hq ⊢; rcases hq with rfl | rfl | rfl | rfl | rfl <;> simp) (lok_of rfl rfl) ?_
      exact K18
  cases hb5 : bk (bX0_pilotIsReady_18 F G N Q a1 a2 f) ((0 : Int32)) (f) with
  | inl w6 =>
    show J p l e _ s m args below meth c A 8 _ (CO D Y A tE ad (F 0) (F 1) (F 2) (G 0) (G 1) (G 2) (G 3) (G 4) (G 5) (G 6) (G 7) (G 8) (G 9) (G 10) (G 11) (G 12) (G 13) (G 14) (G 15) (G 16) (G 17) (G 18) (G 19) (N 0) (N 1) (N 2) (Q 0) (Q 1) sa ma) 0 0 18 [(0, .ref (ad 3)), (1, .int (a1)), (2, .int (a2)), (3, .int (nI f)), (4, .int (w6)), (5, .int ((nI f - 1 - nI ((f)))))] []
    refine j_iload C0 dX0_pilotIsReady_18 rfl ?_
    refine j_if_lt C0 83 dX0_pilotIsReady_20 (by decide) (fun _ => ?_) (fun z => absurd (pd_neg (by omega)) z)
    refine j_iload C0 dX0_pilotIsReady_83 rfl ?_
    refine j_iconst C0 (v := 3) dX0_pilotIsReady_85 (by decide) ?_
    refine j_icmp_ge C0 93 dX0_pilotIsReady_86 (by decide) (fun (q8 : (3 : Int32) ≤ w6) => ?_) (fun (q8 : ¬ ((3 : Int32) ≤ w6)) => ?_)
    ·
      refine j_iconst C0 (v := 0) dX0_pilotIsReady_93 (by decide) ?_
      exact j_zretE C0 rfl (by rw [vX0_pilotIsReady, hb5, bkE_inl, if_pos q8]) (by decide) dX0_pilotIsReady_94 (fun H h => h)
    ·
      refine j_iconst C0 (v := 1) dX0_pilotIsReady_89 (by decide) ?_
      refine j_goto C0 94 dX0_pilotIsReady_90 (by decide) ?_
      exact j_zretE C0 rfl (by rw [vX0_pilotIsReady, hb5, bkE_inl, if_neg q8]) (by decide) dX0_pilotIsReady_94 (fun H h => h)
  | inr r9 =>
    cases r9 with
    | inl r10 =>
      show J p l e _ s m args below meth c A 8 _ (CO D Y A tE ad (F 0) (F 1) (F 2) (G 0) (G 1) (G 2) (G 3) (G 4) (G 5) (G 6) (G 7) (G 8) (G 9) (G 10) (G 11) (G 12) (G 13) (G 14) (G 15) (G 16) (G 17) (G 18) (G 19) (N 0) (N 1) (N 2) (Q 0) (Q 1) sa ma) 0 0 83 [(0, .ref (ad 3)), (1, .int (a1)), (2, .int (a2)), (3, .int (nI f)), (4, .int (r10))] []
      refine j_iload C0 dX0_pilotIsReady_83 rfl ?_
      refine j_iconst C0 (v := 3) dX0_pilotIsReady_85 (by decide) ?_
      refine j_icmp_ge C0 93 dX0_pilotIsReady_86 (by decide) (fun (q12 : (3 : Int32) ≤ r10) => ?_) (fun (q12 : ¬ ((3 : Int32) ≤ r10)) => ?_)
      ·
        refine j_iconst C0 (v := 0) dX0_pilotIsReady_93 (by decide) ?_
        exact j_zretE C0 rfl (by rw [vX0_pilotIsReady, hb5, bkE_inr, bkE_inl, if_pos q12]) (by decide) dX0_pilotIsReady_94 (fun H h => h)
      ·
        refine j_iconst C0 (v := 1) dX0_pilotIsReady_89 (by decide) ?_
        refine j_goto C0 94 dX0_pilotIsReady_90 (by decide) ?_
        exact j_zretE C0 rfl (by rw [vX0_pilotIsReady, hb5, bkE_inr, bkE_inl, if_neg q12]) (by decide) dX0_pilotIsReady_94 (fun H h => h)
    | inr r11 =>
      show J p l e _ s m args below meth c A 8 _ (CO D Y A tE ad (F 0) (F 1) (F 2) (G 0) (G 1) (G 2) (G 3) (G 4) (G 5) (G 6) (G 7) (G 8) (G 9) (G 10) (G 11) (G 12) (G 13) (G 14) (G 15) (G 16) (G 17) (G 18) (G 19) (N 0) (N 1) (N 2) (Q 0) (Q 1) sa ma) 0 0 72 [(0, .ref (ad 3)), (1, .int (a1)), (2, .int (a2)), (3, .int (nI f))] []
      refine j_iconst C0 (v := 0) dX0_pilotIsReady_72 (by decide) ?_
      exact j_zretE C0 rfl (by rw [vX0_pilotIsReady, hb5, bkE_inr, bkE_inr]) (by decide) dX0_pilotIsReady_73 (fun H h => h)
/-! ## HarborTides$Log.tugsOnDuty(I)I -/
def bX0_tugsOnDuty_4 (a1 : Int32) (j4 : Nat) (v4 : Int32) : Int32 := (if (((a1 / (8 : Int32)) + nI j4) - ((a1 / (8 : Int32)) + nI j4) / (3 : Int32) * (3 : Int32)) = 0 then (v4) else ((v4 ||| ((1 : Int32) <<< (nI j4 &&& 31)))))
def vX0_tugsOnDuty (a1 : Int32) : Int32 := (nf (bX0_tugsOnDuty_4 a1) ((0 : Int32)) (6))
set_option maxRecDepth 100000 in
set_option maxHeartbeats 4000000 in
theorem k_X0_tugsOnDuty {l : Launch} (hsl : l.stackTraces = false) {D : va_G} {Y : Nat → ClassId} {A : Nat → Prop} {E : State → Prop} {Ω : Heap → Prop} (a1 : Int32)   : KM l yX0_tugsOnDuty cX0_tugsOnDuty 3 (some .int) D Y A E 0 0 0 0 [.int (a1)] Ω (some (.int (vX0_tugsOnDuty a1))) Ω := by
  refine KM_of RX0 [(0, .int (a1))] rfl (by decide) hsl (Nat.le_of_ble_eq_true rfl) rfl (lok_of rfl rfl) ?_
  intro p e s m args below meth c C0
  refine j_iconst C0 (v := 0) dX0_tugsOnDuty_0 (by decide) ?_
  refine j_istore_n C0 (L' := [(0, .int (a1)), (1, .int ((0 : Int32)))]) dX0_tugsOnDuty_1 (by decide) rfl ?_
  refine j_iconst C0 (v := 0) dX0_tugsOnDuty_2 (by decide) ?_
  refine j_istore_n C0 (L' := [(0, .int (a1)), (1, .int ((0 : Int32))), (2, .int ((0 : Int32)))]) dX0_tugsOnDuty_3 (by decide) rfl ?_
  refine hb_lp (P := fun (j : Nat) (v : Int32) => J p l e _ s m args below meth c A 3 _ Ω 0 0 4 [(0, .int (a1)), (1, .int (v)), (2, .int (nI j))] []) (bX0_tugsOnDuty_4 a1) ((0 : Int32)) (6) ?_ ?_
  ·
    intro j4 hj4 K4
    generalize nf (bX0_tugsOnDuty_4 a1) ((0 : Int32)) j4 = v4 at K4 ⊢
    show J p l e _ s m args below meth c A 3 _ Ω 0 0 4 [(0, .int (a1)), (1, .int (v4)), (2, .int (nI j4))] []
    replace K4 : J p l e _ s m args below meth c A 3 _ Ω 0 0 4 [(0, .int (a1)), (1, .int ((bX0_tugsOnDuty_4 a1 j4 v4))), (2, .int (nI (j4 + 1)))] [] := K4
    refine j_iload_n C0 dX0_tugsOnDuty_4 rfl ?_
    refine j_bipush C0 (v := 6) dX0_tugsOnDuty_5 (by decide) ?_
    refine j_icmp_ge C0 33 dX0_tugsOnDuty_7 (by decide) (fun z => absurd z (cl_lt (show (6 : Int32).toNatClampNeg = 6 by decide +kernel) hj4)) (fun _ => ?_)
    refine j_iload_n C0 dX0_tugsOnDuty_10 rfl ?_
    refine j_bipush C0 (v := 8) dX0_tugsOnDuty_11 (by decide) ?_
    refine j_idiv C0 dX0_tugsOnDuty_13 (by decide) ?_
    refine j_iload_n C0 dX0_tugsOnDuty_14 rfl ?_
    refine j_iadd C0 dX0_tugsOnDuty_15 ?_
    refine j_iconst C0 (v := 3) dX0_tugsOnDuty_16 (by decide) ?_
    refine j_irem C0 dX0_tugsOnDuty_17 (by decide) ?_
    refine j_if_eq C0 27 dX0_tugsOnDuty_18 (by decide) (fun (q2 : (((a1 / (8 : Int32)) + nI j4) - ((a1 / (8 : Int32)) + nI j4) / (3 : Int32) * (3 : Int32)) = 0) => ?_) (fun (q2 : ¬ ((((a1 / (8 : Int32)) + nI j4) - ((a1 / (8 : Int32)) + nI j4) / (3 : Int32) * (3 : Int32)) = 0)) => ?_)
    ·
      refine j_iinc C0 (v := nI (j4 + 1)) (L' := [(0, .int (a1)), (1, .int (v4)), (2, .int (nI (j4 + 1)))]) dX0_tugsOnDuty_27 rfl (nI_inc j4) (by decide) rfl ?_
      refine j_goto C0 4 dX0_tugsOnDuty_30 (by decide) ?_
      rw [bX0_tugsOnDuty_4, if_pos q2] at K4
      exact K4
    ·
      refine j_iload_n C0 dX0_tugsOnDuty_21 rfl ?_
      refine j_iconst C0 (v := 1) dX0_tugsOnDuty_22 (by decide) ?_
      refine j_iload_n C0 dX0_tugsOnDuty_23 rfl ?_
      refine j_ishl C0 dX0_tugsOnDuty_24 ?_
      refine j_ior C0 dX0_tugsOnDuty_25 ?_
      refine j_istore_n C0 (L' := [(0, .int (a1)), (1, .int ((v4 ||| ((1 : Int32) <<< (nI j4 &&& 31))))), (2, .int (nI j4))]) dX0_tugsOnDuty_26 (by decide) rfl ?_
      refine j_iinc C0 (v := nI (j4 + 1)) (L' := [(0, .int (a1)), (1, .int ((v4 ||| ((1 : Int32) <<< (nI j4 &&& 31))))), (2, .int (nI (j4 + 1)))]) dX0_tugsOnDuty_27 rfl (nI_inc j4) (by decide) rfl ?_
      refine j_goto C0 4 dX0_tugsOnDuty_30 (by decide) ?_
      rw [bX0_tugsOnDuty_4, if_neg q2] at K4
      exact K4
  ·
    show J p l e _ s m args below meth c A 3 _ Ω 0 0 4 [(0, .int (a1)), (1, .int ((nf (bX0_tugsOnDuty_4 a1) ((0 : Int32)) (6)))), (2, .int (nI ((6))))] []
    refine j_iload_n C0 dX0_tugsOnDuty_4 rfl ?_
    refine j_bipush C0 (v := 6) dX0_tugsOnDuty_5 (by decide) ?_
    refine j_icmp_ge C0 33 dX0_tugsOnDuty_7 (by decide) (fun _ => ?_) (fun z => absurd (cl_le (show (6 : Int32).toNatClampNeg = 6 by decide +kernel)) z)
    refine j_iload_n C0 dX0_tugsOnDuty_33 rfl ?_
    exact j_iretE C0 rfl (by rw [vX0_tugsOnDuty]) dX0_tugsOnDuty_34 (fun H h => h)
/-! ## HarborTides$Log.readyTugs(II)I -/
def bX0_readyTugs_20 (F : Nat → Int32) (G : Nat → Nat → Int32) (N : Nat → Nat) (Q : Nat → Nat → Nat) (a1 : Int32) (f : Nat) (j20 : Nat) (v20 : Int32) : (Int32) ⊕ (Int32) := (if (a1 - ((G 16) (f - 1 - j20))) < (3 : Int32) then (.inl ((v20 &&& (((G 19) (f - 1 - j20)) ^^^ (-1 : Int32))))) else (.inr (v20)))
def vX0_readyTugs (F : Nat → Int32) (G : Nat → Nat → Int32) (N : Nat → Nat) (Q : Nat → Nat → Nat) (a1 : Int32) (f : Nat) : Int32 := (bkE (bk (bX0_readyTugs_20 F G N Q a1 f) ((vX0_tugsOnDuty (a1))) (f)) (fun w4 => w4) (fun r6 => r6))
set_option maxRecDepth 100000 in
set_option maxHeartbeats 4000000 in
theorem k_X0_readyTugs {l : Launch} (hsl : l.stackTraces = false) {D : va_G} {Y : Nat → ClassId} {A : Nat → Prop} {E : State → Prop} {tE : Nat} (ad : Nat → Nat) (F : Nat → Int32) (G : Nat → Nat → Int32) (N : Nat → Nat) (Q : Nat → Nat → Nat) (sa ma : Nat → Nat) (a1 : Int32) (f : Nat)  (hf : f ≤ N 1) : KM l yX0_readyTugs cX0_readyTugs 6 (some .int) D Y A E 3 90 0 0 [.ref (ad 3), .int (a1), .int (nI f)] (CR D Y A tE ad F G N Q sa ma) (some (.int (vX0_readyTugs F G N Q a1 f))) (CR D Y A tE ad F G N Q sa ma) := by
  refine KM_of RX0 [(0, .ref (ad 3)), (1, .int (a1)), (2, .int (nI f))] rfl (by decide) hsl (Nat.le_of_ble_eq_true rfl) rfl (lok_of rfl rfl) ?_
  intro p e s m args below meth c C0
  show J p l e _ s m args below meth c A 6 _ (CO D Y A tE ad (F 0) (F 1) (F 2) (G 0) (G 1) (G 2) (G 3) (G 4) (G 5) (G 6) (G 7) (G 8) (G 9) (G 10) (G 11) (G 12) (G 13) (G 14) (G 15) (G 16) (G 17) (G 18) (G 19) (N 0) (N 1) (N 2) (Q 0) (Q 1) sa ma) 0 0 0 [(0, .ref (ad 3)), (1, .int (a1)), (2, .int (nI f))] []
  refine c_fact (fun cel h => ci_f h) (fun hcf => ?_)
  obtain ⟨hn0, hn1, hn2, hq0, hq1⟩ := hcf
  refine j_iload_n C0 dX0_readyTugs_0 rfl ?_
  refine j_callSv C0 (k_X0_tugsOnDuty hsl (a1) ) ms_X0_tugsOnDuty wm_X0_54 rfl rfl ⟨Nat.le_of_ble_eq_true rfl, Nat.le_of_ble_eq_true rfl⟩ (Nat.le_of_ble_eq_true rfl) ⟨Nat.le_refl _, Nat.le_refl _⟩ dX0_readyTugs_1 ?_
  refine j_istore_n C0 (L' := [(0, .ref (ad 3)), (1, .int (a1)), (2, .int (nI f)), (3, .int ((vX0_tugsOnDuty (a1))))]) dX0_readyTugs_4 (by decide) rfl ?_
  refine j_iload_n C0 dX0_readyTugs_5 rfl ?_
  refine j_aload_n C0 dX0_readyTugs_6 rfl ?_
  refine c_get C0 in_X0 (ci := 3) rfl 3 (fun cel h => ci_3 h) 0 (by decide) wf_X0_12 rfl dX0_readyTugs_7 ?_
  refine j_callVv C0 (kc_size hsl (fun cel h => ci_M h)) mv_Jx4a65c_size_8abf5 wm_X0_18 (c_recv C0 (ci := 2) rfl 12 (fun cel h => ci_rM h)) rfl rfl ⟨Nat.le_of_ble_eq_true rfl, Nat.le_of_ble_eq_true rfl⟩ (Nat.le_of_ble_eq_true rfl) ⟨Nat.le_refl _, Nat.le_refl _⟩ dX0_readyTugs_10 ?_
  refine j_mmin C0 wm_X0_42 w_min_st w_math w_min_co (Nat.le_of_ble_eq_true rfl) (Nat.le_of_ble_eq_true rfl) (Nat.le_refl _) (Nat.le_refl _) dX0_readyTugs_13 ?_
  refine j_top (nI f) (mn_e hf hn1) ?_
  refine j_iconst C0 (v := 1) dX0_readyTugs_16 (by decide) ?_
  refine j_isub C0 dX0_readyTugs_17 ?_
  refine j_istore C0 (L' := [(0, .ref (ad 3)), (1, .int (a1)), (2, .int (nI f)), (3, .int ((vX0_tugsOnDuty (a1)))), (4, .int ((nI f - (1 : Int32))))]) dX0_readyTugs_18 (by decide) rfl ?_
  refine j_castL (L' := [(0, .ref (ad 3)), (1, .int (a1)), (2, .int (nI f)), (3, .int ((vX0_tugsOnDuty (a1)))), (4, .int ((nI f - 1 - nI (0))))]) (by rw [nI_0, Int32.sub_zero]) ?_
  refine hb_bk _ _ (P := fun R0 Q0 (j : Nat) (v : Int32) => J p l e R0 s m args below meth c A 6 Q0 (CO D Y A tE ad (F 0) (F 1) (F 2) (G 0) (G 1) (G 2) (G 3) (G 4) (G 5) (G 6) (G 7) (G 8) (G 9) (G 10) (G 11) (G 12) (G 13) (G 14) (G 15) (G 16) (G 17) (G 18) (G 19) (N 0) (N 1) (N 2) (Q 0) (Q 1) sa ma) 0 0 20 [(0, .ref (ad 3)), (1, .int (a1)), (2, .int (nI f)), (3, .int (v)), (4, .int ((nI f - 1 - nI (j))))] []) (RR := fun R0 Q0 => (fun (r0 : Int32) => J p l e R0 s m args below meth c A 6 Q0 (CO D Y A tE ad (F 0) (F 1) (F 2) (G 0) (G 1) (G 2) (G 3) (G 4) (G 5) (G 6) (G 7) (G 8) (G 9) (G 10) (G 11) (G 12) (G 13) (G 14) (G 15) (G 16) (G 17) (G 18) (G 19) (N 0) (N 1) (N 2) (Q 0) (Q 1) sa ma) 0 0 69 [(0, .ref (ad 3)), (1, .int (a1)), (2, .int (nI f)), (3, .int (r0))] [])) (bX0_readyTugs_20 F G N Q a1 f) ((vX0_tugsOnDuty (a1))) (f) ?_ ?_
  rotate_left
  ·
    intro j20 hj20 v20 hv20 K20
    clear hv20
    show J p l e _ s m args below meth c A 6 _ (CO D Y A tE ad (F 0) (F 1) (F 2) (G 0) (G 1) (G 2) (G 3) (G 4) (G 5) (G 6) (G 7) (G 8) (G 9) (G 10) (G 11) (G 12) (G 13) (G 14) (G 15) (G 16) (G 17) (G 18) (G 19) (N 0) (N 1) (N 2) (Q 0) (Q 1) sa ma) 0 0 20 [(0, .ref (ad 3)), (1, .int (a1)), (2, .int (nI f)), (3, .int (v20)), (4, .int ((nI f - 1 - nI (j20))))] []
    refine j_iload C0 dX0_readyTugs_20 rfl ?_
    refine j_if_lt C0 69 dX0_readyTugs_22 (by decide) (fun z => absurd z (pd_pos hj20 (by omega))) (fun _ => ?_)
    refine j_aload_n C0 dX0_readyTugs_25 rfl ?_
    refine c_get C0 in_X0 (ci := 3) rfl 3 (fun cel h => ci_3 h) 0 (by decide) wf_X0_12 rfl dX0_readyTugs_26 ?_
    refine j_iload C0 dX0_readyTugs_29 rfl ?_
    refine j_top (nI (f - 1 - j20)) (pd_eq hj20) ?_
    refine j_callVv C0 (kc_get hsl (fun cel h => ci_M h) hn1 (i := (f - 1 - j20)) (by omega)) mv_Jx4a65c_get_915e3 wm_X0_22 (c_recv C0 (ci := 2) rfl 12 (fun cel h => ci_rM h)) rfl rfl ⟨Nat.le_of_ble_eq_true rfl, Nat.le_of_ble_eq_true rfl⟩ (Nat.le_of_ble_eq_true rfl) ⟨Nat.le_refl _, Nat.le_refl _⟩ dX0_readyTugs_31 ?_
    show J p l e _ s m args below meth c A 6 _ (CO D Y A tE ad (F 0) (F 1) (F 2) (G 0) (G 1) (G 2) (G 3) (G 4) (G 5) (G 6) (G 7) (G 8) (G 9) (G 10) (G 11) (G 12) (G 13) (G 14) (G 15) (G 16) (G 17) (G 18) (G 19) (N 0) (N 1) (N 2) (Q 0) (Q 1) sa ma) 0 0 34 [(0, .ref (ad 3)), (1, .int (a1)), (2, .int (nI f)), (3, .int (v20)), (4, .int ((nI f - 1 - nI (j20))))] [.ref ((ma (f - 1 - j20)))]
    refine c_castS C0 (ci := 4) rfl (21 + 2 * (f - 1 - j20)) (fun cel h => ⟨_, ci_m h (f - 1 - j20) (by omega)⟩) wc_X0_26 dX0_readyTugs_34 ?_
    refine j_astore C0 (L' := [(0, .ref (ad 3)), (1, .int (a1)), (2, .int (nI f)), (3, .int (v20)), (4, .int ((nI f - 1 - nI (j20)))), (5, .ref ((ma (f - 1 - j20))))]) dX0_readyTugs_37 (by decide) rfl ?_
    refine j_iload_n C0 dX0_readyTugs_39 rfl ?_
    refine j_aload C0 dX0_readyTugs_40 rfl ?_
    refine c_get C0 in_X1 (ci := 4) rfl (21 + 2 * (f - 1 - j20)) (fun cel h => ci_m h (f - 1 - j20) (by omega)) 0 (by decide) wf_X0_48 (v := .int (((G 16) (f - 1 - j20)))) rfl dX0_readyTugs_42 ?_
    refine j_isub C0 dX0_readyTugs_45 ?_
    refine j_iconst C0 (v := 3) dX0_readyTugs_46 (by decide) ?_
    refine j_icmp_lt C0 53 dX0_readyTugs_47 (by decide) (fun (q2 : (a1 - ((G 16) (f - 1 - j20))) < (3 : Int32)) => ?_) (fun (q2 : ¬ ((a1 - ((G 16) (f - 1 - j20))) < (3 : Int32))) => ?_)
    ·
      refine j_iload_n C0 dX0_readyTugs_53 rfl ?_
      refine j_aload C0 dX0_readyTugs_54 rfl ?_
      refine c_get C0 in_X1 (ci := 4) rfl (21 + 2 * (f - 1 - j20)) (fun cel h => ci_m h (f - 1 - j20) (by omega)) 4 (by decide) wf_X0_58 (v := .int (((G 19) (f - 1 - j20)))) rfl dX0_readyTugs_56 ?_
      refine j_iconst C0 (v := -1) dX0_readyTugs_59 (by decide) ?_
      refine j_ixor C0 dX0_readyTugs_60 ?_
      refine j_iand C0 dX0_readyTugs_61 ?_
      refine j_istore_n C0 (L' := [(0, .ref (ad 3)), (1, .int (a1)), (2, .int (nI f)), (3, .int ((v20 &&& (((G 19) (f - 1 - j20)) ^^^ (-1 : Int32))))), (4, .int ((nI f - 1 - nI (j20)))), (5, .ref ((ma (f - 1 - j20))))]) dX0_readyTugs_62 (by decide) rfl ?_
      refine j_iinc C0 (v := (nI f - 1 - nI (j20 + 1))) (L' := [(0, .ref (ad 3)), (1, .int (a1)), (2, .int (nI f)), (3, .int ((v20 &&& (((G 19) (f - 1 - j20)) ^^^ (-1 : Int32))))), (4, .int ((nI f - 1 - nI (j20 + 1)))), (5, .ref ((ma (f - 1 - j20))))]) dX0_readyTugs_63 rfl (pd_inc _ j20) (by decide) rfl ?_
      refine j_goto C0 20 dX0_readyTugs_66 (by decide) ?_
      rw [bX0_readyTugs_20, if_pos q2] at K20
      refine j_locals (L' := [(0, .ref (ad 3)), (1, .int (a1)), (2, .int (nI f)), (3, .int ((v20 &&& (((G 19) (f - 1 - j20)) ^^^ (-1 : Int32))))), (4, .int ((nI f - 1 - nI (j20 + 1))))]) (fun q hq => by simp only [List.mem_cons, List.mem_nil_iff, or_false] at hq ⊢; rcases hq with rfl | rfl | rfl | rfl | rfl <;> simp) (lok_of rfl rfl) ?_
      exact K20
    ·
      refine j_goto C0 69 dX0_readyTugs_50 (by decide) ?_
      rw [bX0_readyTugs_20, if_neg q2] at K20
      refine j_locals (L' := [(0, .ref (ad 3)), (1, .int (a1)), (2, .int (nI f)), (3, .int (v20))]) (fun q hq => by simp only [List.mem_cons, List.mem_nil_iff, or_false] at hq ⊢; rcases hq with rfl | rfl | rfl | rfl <;> simp) (lok_of rfl rfl) ?_
      exact K20
  cases hb3 : bk (bX0_readyTugs_20 F G N Q a1 f) ((vX0_tugsOnDuty (a1))) (f) with
  | inl w4 =>
    show J p l e _ s m args below meth c A 6 _ (CO D Y A tE ad (F 0) (F 1) (F 2) (G 0) (G 1) (G 2) (G 3) (G 4) (G 5) (G 6) (G 7) (G 8) (G 9) (G 10) (G 11) (G 12) (G 13) (G 14) (G 15) (G 16) (G 17) (G 18) (G 19) (N 0) (N 1) (N 2) (Q 0) (Q 1) sa ma) 0 0 20 [(0, .ref (ad 3)), (1, .int (a1)), (2, .int (nI f)), (3, .int (w4)), (4, .int ((nI f - 1 - nI ((f)))))] []
    refine j_iload C0 dX0_readyTugs_20 rfl ?_
    refine j_if_lt C0 69 dX0_readyTugs_22 (by decide) (fun _ => ?_) (fun z => absurd (pd_neg (by omega)) z)
    refine j_iload_n C0 dX0_readyTugs_69 rfl ?_
    exact j_iretE C0 rfl (by rw [vX0_readyTugs, hb3, bkE_inl]) dX0_readyTugs_70 (fun H h => h)
  | inr r6 =>
    show J p l e _ s m args below meth c A 6 _ (CO D Y A tE ad (F 0) (F 1) (F 2) (G 0) (G 1) (G 2) (G 3) (G 4) (G 5) (G 6) (G 7) (G 8) (G 9) (G 10) (G 11) (G 12) (G 13) (G 14) (G 15) (G 16) (G 17) (G 18) (G 19) (N 0) (N 1) (N 2) (Q 0) (Q 1) sa ma) 0 0 69 [(0, .ref (ad 3)), (1, .int (a1)), (2, .int (nI f)), (3, .int (r6))] []
    refine j_iload_n C0 dX0_readyTugs_69 rfl ?_
    exact j_iretE C0 rfl (by rw [vX0_readyTugs, hb3, bkE_inr]) dX0_readyTugs_70 (fun H h => h)
/-! ## HarborTides$Log.berthIsFree(III)Z -/
def bX0_berthIsFree_6 (F : Nat → Int32) (G : Nat → Nat → Int32) (N : Nat → Nat) (Q : Nat → Nat → Nat) (a1 : Int32) (a2 : Int32) (f : Nat) (j6 : Nat) (v6 : Int32) : Int32 := (if ((G 9) ((Q 1) j6)) = a1 then (if ((G 17) j6) = 0 then ((v6 + Int32.ofInt (1))) else (if (a2 - ((G 16) j6)) < (2 : Int32) then (v6) else ((v6 + Int32.ofInt (-1))))) else (v6))
def vX0_berthIsFree (F : Nat → Int32) (G : Nat → Nat → Int32) (N : Nat → Nat) (Q : Nat → Nat → Nat) (a1 : Int32) (a2 : Int32) (f : Nat) : Int32 := (if (nf (bX0_berthIsFree_6 F G N Q a1 a2 f) ((0 : Int32)) (f)) = 0 then (1 : Int32) else (0 : Int32))
set_option maxRecDepth 100000 in
set_option maxHeartbeats 4000000 in
theorem k_X0_berthIsFree {l : Launch} (hsl : l.stackTraces = false) {D : va_G} {Y : Nat → ClassId} {A : Nat → Prop} {E : State → Prop} {tE : Nat} (ad : Nat → Nat) (F : Nat → Int32) (G : Nat → Nat → Int32) (N : Nat → Nat) (Q : Nat → Nat → Nat) (sa ma : Nat → Nat) (a1 : Int32) (a2 : Int32) (f : Nat)  (hf : f ≤ N 1) : KM l yX0_berthIsFree cX0_berthIsFree 7 (some .boolean) D Y A E 3 90 0 0 [.ref (ad 3), .int (a1), .int (a2), .int (nI f)] (CR D Y A tE ad F G N Q sa ma) (some (.int (vX0_berthIsFree F G N Q a1 a2 f))) (CR D Y A tE ad F G N Q sa ma) := by
  refine KM_of RX0 [(0, .ref (ad 3)), (1, .int (a1)), (2, .int (a2)), (3, .int (nI f))] rfl (by decide) hsl (Nat.le_of_ble_eq_true rfl) rfl (lok_of rfl rfl) ?_
  intro p e s m args below meth c C0
  show J p l e _ s m args below meth c A 7 _ (CO D Y A tE ad (F 0) (F 1) (F 2) (G 0) (G 1) (G 2) (G 3) (G 4) (G 5) (G 6) (G 7) (G 8) (G 9) (G 10) (G 11) (G 12) (G 13) (G 14) (G 15) (G 16) (G 17) (G 18) (G 19) (N 0) (N 1) (N 2) (Q 0) (Q 1) sa ma) 0 0 0 [(0, .ref (ad 3)), (1, .int (a1)), (2, .int (a2)), (3, .int (nI f))] []
  refine c_fact (fun cel h => ci_f h) (fun hcf => ?_)
  obtain ⟨hn0, hn1, hn2, hq0, hq1⟩ := hcf
  refine j_iconst C0 (v := 0) dX0_berthIsFree_0 (by decide) ?_
  refine j_istore C0 (L' := [(0, .ref (ad 3)), (1, .int (a1)), (2, .int (a2)), (3, .int (nI f)), (4, .int ((0 : Int32)))]) dX0_berthIsFree_1 (by decide) rfl ?_
  refine j_iconst C0 (v := 0) dX0_berthIsFree_3 (by decide) ?_
  refine j_istore C0 (L' := [(0, .ref (ad 3)), (1, .int (a1)), (2, .int (a2)), (3, .int (nI f)), (4, .int ((0 : Int32))), (5, .int ((0 : Int32)))]) dX0_berthIsFree_4 (by decide) rfl ?_
  refine hb_lp (P := fun (j : Nat) (v : Int32) => J p l e _ s m args below meth c A 7 _ (CO D Y A tE ad (F 0) (F 1) (F 2) (G 0) (G 1) (G 2) (G 3) (G 4) (G 5) (G 6) (G 7) (G 8) (G 9) (G 10) (G 11) (G 12) (G 13) (G 14) (G 15) (G 16) (G 17) (G 18) (G 19) (N 0) (N 1) (N 2) (Q 0) (Q 1) sa ma) 0 0 6 [(0, .ref (ad 3)), (1, .int (a1)), (2, .int (a2)), (3, .int (nI f)), (4, .int (v)), (5, .int (nI j))] []) (bX0_berthIsFree_6 F G N Q a1 a2 f) ((0 : Int32)) (f) ?_ ?_
  ·
    intro j6 hj6 K6
    generalize nf (bX0_berthIsFree_6 F G N Q a1 a2 f) ((0 : Int32)) j6 = v6 at K6 ⊢
    show J p l e _ s m args below meth c A 7 _ (CO D Y A tE ad (F 0) (F 1) (F 2) (G 0) (G 1) (G 2) (G 3) (G 4) (G 5) (G 6) (G 7) (G 8) (G 9) (G 10) (G 11) (G 12) (G 13) (G 14) (G 15) (G 16) (G 17) (G 18) (G 19) (N 0) (N 1) (N 2) (Q 0) (Q 1) sa ma) 0 0 6 [(0, .ref (ad 3)), (1, .int (a1)), (2, .int (a2)), (3, .int (nI f)), (4, .int (v6)), (5, .int (nI j6))] []
    replace K6 : J p l e _ s m args below meth c A 7 _ (CO D Y A tE ad (F 0) (F 1) (F 2) (G 0) (G 1) (G 2) (G 3) (G 4) (G 5) (G 6) (G 7) (G 8) (G 9) (G 10) (G 11) (G 12) (G 13) (G 14) (G 15) (G 16) (G 17) (G 18) (G 19) (N 0) (N 1) (N 2) (Q 0) (Q 1) sa ma) 0 0 6 [(0, .ref (ad 3)), (1, .int (a1)), (2, .int (a2)), (3, .int (nI f)), (4, .int ((bX0_berthIsFree_6 F G N Q a1 a2 f j6 v6))), (5, .int (nI (j6 + 1)))] [] := K6
    refine j_iload C0 dX0_berthIsFree_6 rfl ?_
    refine j_iload_n C0 dX0_berthIsFree_8 rfl ?_
    refine j_icmp_ge C0 87 dX0_berthIsFree_9 (by decide) (fun z => absurd z (nI_ge hj6 (by omega))) (fun _ => ?_)
    refine j_iload C0 dX0_berthIsFree_12 rfl ?_
    refine j_aload_n C0 dX0_berthIsFree_14 rfl ?_
    refine c_get C0 in_X0 (ci := 3) rfl 3 (fun cel h => ci_3 h) 0 (by decide) wf_X0_12 rfl dX0_berthIsFree_15 ?_
    refine j_callVv C0 (kc_size hsl (fun cel h => ci_M h)) mv_Jx4a65c_size_8abf5 wm_X0_18 (c_recv C0 (ci := 2) rfl 12 (fun cel h => ci_rM h)) rfl rfl ⟨Nat.le_of_ble_eq_true rfl, Nat.le_of_ble_eq_true rfl⟩ (Nat.le_of_ble_eq_true rfl) ⟨Nat.le_refl _, Nat.le_refl _⟩ dX0_berthIsFree_18 ?_
    refine j_icmp_ge C0 87 dX0_berthIsFree_21 (by decide) (fun z => absurd z (nI_ge (by omega) (by omega))) (fun _ => ?_)
    refine j_aload_n C0 dX0_berthIsFree_24 rfl ?_
    refine c_get C0 in_X0 (ci := 3) rfl 3 (fun cel h => ci_3 h) 0 (by decide) wf_X0_12 rfl dX0_berthIsFree_25 ?_
    refine j_iload C0 dX0_berthIsFree_28 rfl ?_
    refine j_callVv C0 (kc_get hsl (fun cel h => ci_M h) hn1 (i := j6) (by omega)) mv_Jx4a65c_get_915e3 wm_X0_22 (c_recv C0 (ci := 2) rfl 12 (fun cel h => ci_rM h)) rfl rfl ⟨Nat.le_of_ble_eq_true rfl, Nat.le_of_ble_eq_true rfl⟩ (Nat.le_of_ble_eq_true rfl) ⟨Nat.le_refl _, Nat.le_refl _⟩ dX0_berthIsFree_30 ?_
    show J p l e _ s m args below meth c A 7 _ (CO D Y A tE ad (F 0) (F 1) (F 2) (G 0) (G 1) (G 2) (G 3) (G 4) (G 5) (G 6) (G 7) (G 8) (G 9) (G 10) (G 11) (G 12) (G 13) (G 14) (G 15) (G 16) (G 17) (G 18) (G 19) (N 0) (N 1) (N 2) (Q 0) (Q 1) sa ma) 0 0 33 [(0, .ref (ad 3)), (1, .int (a1)), (2, .int (a2)), (3, .int (nI f)), (4, .int (v6)), (5, .int (nI j6))] [.ref ((ma j6))]
    refine c_castS C0 (ci := 4) rfl (21 + 2 * j6) (fun cel h => ⟨_, ci_m h j6 (by omega)⟩) wc_X0_26 dX0_berthIsFree_33 ?_
    refine j_astore C0 (L' := [(0, .ref (ad 3)), (1, .int (a1)), (2, .int (a2)), (3, .int (nI f)), (4, .int (v6)), (5, .int (nI j6)), (6, .ref ((ma j6)))]) dX0_berthIsFree_36 (by decide) rfl ?_
    refine j_aload C0 dX0_berthIsFree_38 rfl ?_
    refine c_get C0 in_X1 (ci := 4) rfl (21 + 2 * j6) (fun cel h => ci_m h j6 (by omega)) 1 (by decide) wf_X0_32 (v := .ref ((sa ((Q 1) j6)))) rfl dX0_berthIsFree_40 ?_
    refine c_get C0 in_X4 (ci := 7) rfl (20 + 2 * ((Q 1) j6)) (fun cel h => ci_s h ((Q 1) j6) (hq1 j6 (by omega))) 4 (by decide) wf_X0_36 (v := .int (((G 9) ((Q 1) j6)))) rfl dX0_berthIsFree_43 ?_
    refine j_iload_n C0 dX0_berthIsFree_46 rfl ?_
    refine j_icmp_eq C0 53 dX0_berthIsFree_47 (by decide) (fun (q3 : ((G 9) ((Q 1) j6)) = a1) => ?_) (fun (q3 : ¬ (((G 9) ((Q 1) j6)) = a1)) => ?_)
    ·
      refine j_aload C0 dX0_berthIsFree_53 rfl ?_
      refine c_get C0 in_X1 (ci := 4) rfl (21 + 2 * j6) (fun cel h => ci_m h j6 (by omega)) 2 (by decide) wf_X0_61 (v := .int (((G 17) j6))) rfl dX0_berthIsFree_55 ?_
      refine j_if_ne C0 67 dX0_berthIsFree_58 (by decide) (fun (q4 : ¬ (((G 17) j6) = 0)) => ?_) (fun (q4 : ((G 17) j6) = 0) => ?_)
      ·
        refine j_iload_n C0 dX0_berthIsFree_67 rfl ?_
        refine j_aload C0 dX0_berthIsFree_68 rfl ?_
        refine c_get C0 in_X1 (ci := 4) rfl (21 + 2 * j6) (fun cel h => ci_m h j6 (by omega)) 0 (by decide) wf_X0_48 (v := .int (((G 16) j6))) rfl dX0_berthIsFree_70 ?_
        refine j_isub C0 dX0_berthIsFree_73 ?_
        refine j_iconst C0 (v := 2) dX0_berthIsFree_74 (by decide) ?_
        refine j_icmp_lt C0 81 dX0_berthIsFree_75 (by decide) (fun (q5 : (a2 - ((G 16) j6)) < (2 : Int32)) => ?_) (fun (q5 : ¬ ((a2 - ((G 16) j6)) < (2 : Int32))) => ?_)
        ·
          refine j_iinc C0 (v := nI (j6 + 1)) (L' := [(0, .ref (ad 3)), (1, .int (a1)), (2, .int (a2)), (3, .int (nI f)), (4, .int (v6)), (5, .int (nI (j6 + 1))), (6, .ref ((ma j6)))]) dX0_berthIsFree_81 rfl (nI_inc j6) (by decide) rfl ?_
          refine j_goto C0 6 dX0_berthIsFree_84 (by decide) ?_
          rw [bX0_berthIsFree_6, if_pos q3, if_neg q4, if_pos q5] at K6
          refine j_locals (L' := [(0, .ref (ad 3)), (1, .int (a1)), (2, .int (a2)), (3, .int (nI f)), (4, .int (v6)), (5, .int (nI (j6 + 1)))]) (fun q hq => by simp only [List.mem_cons, List.mem_nil_iff, or_false] at hq ⊢; rcases hq with rfl | rfl | rfl | rfl | rfl | rfl <;> simp) (lok_of rfl rfl) ?_
          exact K6
        ·
          refine j_iinc C0 (v := (v6 + Int32.ofInt (-1))) (L' := [(0, .ref (ad 3)), (1, .int (a1)), (2, .int (a2)), (3, .int (nI f)), (4, .int ((v6 + Int32.ofInt (-1)))), (5, .int (nI j6)), (6, .ref ((ma j6)))]) dX0_berthIsFree_78 rfl rfl (by decide) rfl ?_
          refine j_iinc C0 (v := nI (j6 + 1)) (L' := [(0, .ref (ad 3)), (1, .int (a1)), (2, .int (a2)), (3, .int (nI f)), (4, .int ((v6 + Int32.ofInt (-1)))), (5, .int (nI (j6 + 1))), (6, .ref ((ma j6)))]) dX0_berthIsFree_81 rfl (nI_inc j6) (by decide) rfl ?_
          refine j_goto C0 6 dX0_berthIsFree_84 (by decide) ?_
          rw [bX0_berthIsFree_6, if_pos q3, if_neg q4, if_neg q5] at K6
          refine j_locals (L' := [(0, .ref (ad 3)), (1, .int (a1)), (2, .int (a2)), (3, .int (nI f)), (4, .int ((v6 + Int32.ofInt (-1)))), (5, .int (nI (j6 + 1)))]) (fun q hq => by simp only [List.mem_cons, List.mem_nil_iff, or_false] at hq ⊢; rcases hq with rfl | rfl | rfl | rfl | rfl | rfl <;> simp) (lok_of rfl rfl) ?_
          exact K6
      ·
        refine j_iinc C0 (v := (v6 + Int32.ofInt (1))) (L' := [(0, .ref (ad 3)), (1, .int (a1)), (2, .int (a2)), (3, .int (nI f)), (4, .int ((v6 + Int32.ofInt (1)))), (5, .int (nI j6)), (6, .ref ((ma j6)))]) dX0_berthIsFree_61 rfl rfl (by decide) rfl ?_
        refine j_goto C0 81 dX0_berthIsFree_64 (by decide) ?_
        refine j_iinc C0 (v := nI (j6 + 1)) (L' := [(0, .ref (ad 3)), (1, .int (a1)), (2, .int (a2)), (3, .int (nI f)), (4, .int ((v6 + Int32.ofInt (1)))), (5, .int (nI (j6 + 1))), (6, .ref ((ma j6)))]) dX0_berthIsFree_81 rfl (nI_inc j6) (by decide) rfl ?_
        refine j_goto C0 6 dX0_berthIsFree_84 (by decide) ?_
        rw [bX0_berthIsFree_6, if_pos q3, if_pos q4] at K6
        refine j_locals (L' := [(0, .ref (ad 3)), (1, .int (a1)), (2, .int (a2)), (3, .int (nI f)), (4, .int ((v6 + Int32.ofInt (1)))), (5, .int (nI (j6 + 1)))]) (fun q hq => by simp only [List.mem_cons, List.mem_nil_iff, or_false] at hq ⊢; rcases hq with rfl | rfl | rfl | rfl | rfl | rfl <;> simp) (lok_of rfl rfl) ?_
        exact K6
    ·
      refine j_goto C0 81 dX0_berthIsFree_50 (by decide) ?_
      refine j_iinc C0 (v := nI (j6 + 1)) (L' := [(0, .ref (ad 3)), (1, .int (a1)), (2, .int (a2)), (3, .int (nI f)), (4, .int (v6)), (5, .int (nI (j6 + 1))), (6, .ref ((ma j6)))]) dX0_berthIsFree_81 rfl (nI_inc j6) (by decide) rfl ?_
      refine j_goto C0 6 dX0_berthIsFree_84 (by decide) ?_
      rw [bX0_berthIsFree_6, if_neg q3] at K6
      refine j_locals (L' := [(0, .ref (ad 3)), (1, .int (a1)), (2, .int (a2)), (3, .int (nI f)), (4, .int (v6)), (5, .int (nI (j6 + 1)))]) (fun q hq => by simp only [List.mem_cons, List.mem_nil_iff, or_false] at hq ⊢; rcases hq with rfl | rfl | rfl | rfl | rfl | rfl <;> simp) (lok_of rfl rfl) ?_
      exact K6
  ·
    show J p l e _ s m args below meth c A 7 _ (CO D Y A tE ad (F 0) (F 1) (F 2) (G 0) (G 1) (G 2) (G 3) (G 4) (G 5) (G 6) (G 7) (G 8) (G 9) (G 10) (G 11) (G 12) (G 13) (G 14) (G 15) (G 16) (G 17) (G 18) (G 19) (N 0) (N 1) (N 2) (Q 0) (Q 1) sa ma) 0 0 6 [(0, .ref (ad 3)), (1, .int (a1)), (2, .int (a2)), (3, .int (nI f)), (4, .int ((nf (bX0_berthIsFree_6 F G N Q a1 a2 f) ((0 : Int32)) (f)))), (5, .int (nI ((f))))] []
    refine j_iload C0 dX0_berthIsFree_6 rfl ?_
    refine j_iload_n C0 dX0_berthIsFree_8 rfl ?_
    refine j_icmp_ge C0 87 dX0_berthIsFree_9 (by decide) (fun _ => ?_) (fun z => absurd (nI_le (Nat.le_refl _) (by omega)) z)
    refine j_iload C0 dX0_berthIsFree_87 rfl ?_
    refine j_if_ne C0 96 dX0_berthIsFree_89 (by decide) (fun (q7 : ¬ ((nf (bX0_berthIsFree_6 F G N Q a1 a2 f) ((0 : Int32)) (f)) = 0)) => ?_) (fun (q7 : (nf (bX0_berthIsFree_6 F G N Q a1 a2 f) ((0 : Int32)) (f)) = 0) => ?_)
    ·
      refine j_iconst C0 (v := 0) dX0_berthIsFree_96 (by decide) ?_
      exact j_zretE C0 rfl (by rw [vX0_berthIsFree, if_neg q7]) (by decide) dX0_berthIsFree_97 (fun H h => h)
    ·
      refine j_iconst C0 (v := 1) dX0_berthIsFree_92 (by decide) ?_
      refine j_goto C0 97 dX0_berthIsFree_93 (by decide) ?_
      exact j_zretE C0 rfl (by rw [vX0_berthIsFree, if_pos q7]) (by decide) dX0_berthIsFree_97 (fun H h => h)
