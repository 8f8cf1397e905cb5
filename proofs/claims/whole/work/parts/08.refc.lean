theorem rot_in {F : Nat → Int32} {G : Nat → Nat → Int32} {a1 : Int32} {pn : Nat} (hpe : vX7_firstReady F G = nI pn) (hpn : pn < 6) (hr : ∀ j, j < 6 → vp_in (G 16 j) 6) : ∀ N, N ≤ 5 - pn → ∀ j, j < 6 → vp_in (nf (bX7_begins_15 F G a1) (G 16) N j) 6 := by
  intro N
  induction N with
  | zero => intro _; exact hr
  | succ n ih =>
    intro hn j hj
    rw [nf, bX7_begins_15]
    unfold upd
    split
    · refine ih (by omega) _ ?_
      rw [hpe, nI_add, nI_1, nI_clamp (by omega)]
      omega
    · exact ih (by omega) j hj
theorem begins_inv {F : Nat → Int32} {G : Nat → Nat → Int32} {a1 : Int32} (hI : RI F G) (hs1 : vp_in a1 30) (hp : vp_in (vX7_firstReady F G) 6) (hc : vp_in (F 20) 100) : RI (sX7_begins F G a1).1 (sX7_begins F G a1).2 ∧ (sX7_begins F G a1).1 1 = F 1 ∧ (sX7_begins F G a1).1 5 = F 5 := by
  obtain ⟨hn, hs, hm, hb, hw, hr⟩ := hI
  obtain ⟨pn, hpn, hpe⟩ := vp_in_of hp (by decide)
  obtain ⟨k, hk, hke⟩ := vp_in_of hc (by decide)
  have hN : ((5 : Int32) - vX7_firstReady F G).toNatClampNeg = 5 - pn := by rw [hpe, show (5 : Int32) = nI 5 from rfl, pk_sub (by omega), nI_clamp (by omega)]
  have h20 : ct (F 20 + (1 : Int32)) 100 := ⟨k + 1, hk, by rw [hke, nI_1]⟩
  have h22 : ∀ j, j < 100 → vp_in (upd (G 22) (F 20).toNatClampNeg a1 j) 30 := by
    intro j hj
    unfold upd
    split
    · exact hs1
    · exact hw j hj
  have h16 : ∀ j, j < 6 → vp_in (upd (nf (bX7_begins_15 F G a1) (G 16) ((5 : Int32) - vX7_firstReady F G).toNatClampNeg) (5 : Int32).toNatClampNeg (G 16 (vX7_firstReady F G).toNatClampNeg) j) 6 := by
    intro j hj
    unfold upd
    split
    · exact hr _ (vp_cl hp)
    · exact rot_in hpe hpn hr _ (by rw [hN]; exact Nat.le_refl _) j hj
  unfold sX7_begins
  split
  · exact ⟨⟨hn, hs, h20, hb, h22, h16⟩, rfl, rfl⟩
  · exact ⟨⟨hn, hs, h20, hb, h22, h16⟩, rfl, rfl⟩
theorem looksAt_inv {F : Nat → Int32} {G : Nat → Nat → Int32} {a1 : Int32} (hI : RI F G) (hs1 : vp_in a1 30) : RI (sX7_looksAt F G a1).1 (sX7_looksAt F G a1).2 ∧ (sX7_looksAt F G a1).1 1 = F 1 ∧ (sX7_looksAt F G a1).1 5 = F 5 := by
  obtain ⟨hn, hs, hm, hb, hw, hr⟩ := id hI
  unfold sX7_looksAt
  repeat' split
  all_goals first
    | exact ⟨hI, rfl, rfl⟩
    | exact ⟨⟨hn, hs, hm, hb, hw, hr⟩, rfl, rfl⟩
    | exact begins_inv hI hs1 (firstReady_in F G (by assumption)) (cnt_lt hm (by assumption))
def PI (F : Nat → Int32) (v : Int32 × (Nat → Int32) × (Nat → Nat → Int32)) : Prop := RI v.2.1 v.2.2 ∧ v.2.1 1 = F 1 + (1 : Int32) ∧ v.2.1 5 = F 5
/-! ## passes()V -/
def bX7_passes_12 (F : Nat → Int32) (G : Nat → Nat → Int32) (j12 : Nat) (v12 : Int32 × (Nat → Int32) × (Nat → Int32)) : Int32 × (Nat → Int32) × (Nat → Int32) := match v12 with | (v12_0, v12_1, v12_2) => (if (v12_1 (nI j12).toNatClampNeg) = (1 : Int32) then (if (((F 1) + (1 : Int32)) - ((G 12) (nI j12).toNatClampNeg)) < (2 : Int32) then (if ((upd v12_1 (nI j12).toNatClampNeg (((v12_1 (nI j12).toNatClampNeg) + (0 : Int32)))) (nI j12).toNatClampNeg) = (2 : Int32) then ((v12_0 + ((5 : Int32) * ((G 6) (nI j12).toNatClampNeg))), (upd v12_1 (nI j12).toNatClampNeg (((v12_1 (nI j12).toNatClampNeg) + (0 : Int32)))), (upd v12_2 (nI j12).toNatClampNeg ((v12_2 (nI j12).toNatClampNeg) + ((5 : Int32) * ((G 6) (nI j12).toNatClampNeg))))) else (v12_0, (upd v12_1 (nI j12).toNatClampNeg (((v12_1 (nI j12).toNatClampNeg) + (0 : Int32)))), v12_2)) else (if ((upd v12_1 (nI j12).toNatClampNeg (((v12_1 (nI j12).toNatClampNeg) + (1 : Int32)))) (nI j12).toNatClampNeg) = (2 : Int32) then ((v12_0 + ((5 : Int32) * ((G 6) (nI j12).toNatClampNeg))), (upd v12_1 (nI j12).toNatClampNeg (((v12_1 (nI j12).toNatClampNeg) + (1 : Int32)))), (upd v12_2 (nI j12).toNatClampNeg ((v12_2 (nI j12).toNatClampNeg) + ((5 : Int32) * ((G 6) (nI j12).toNatClampNeg))))) else (v12_0, (upd v12_1 (nI j12).toNatClampNeg (((v12_1 (nI j12).toNatClampNeg) + (1 : Int32)))), v12_2))) else (if (v12_1 (nI j12).toNatClampNeg) = (3 : Int32) then (if (((F 1) + (1 : Int32)) - ((G 12) (nI j12).toNatClampNeg)) < (2 : Int32) then (if ((upd v12_1 (nI j12).toNatClampNeg (((v12_1 (nI j12).toNatClampNeg) + (0 : Int32)))) (nI j12).toNatClampNeg) = (2 : Int32) then ((v12_0 + ((5 : Int32) * ((G 6) (nI j12).toNatClampNeg))), (upd v12_1 (nI j12).toNatClampNeg (((v12_1 (nI j12).toNatClampNeg) + (0 : Int32)))), (upd v12_2 (nI j12).toNatClampNeg ((v12_2 (nI j12).toNatClampNeg) + ((5 : Int32) * ((G 6) (nI j12).toNatClampNeg))))) else (v12_0, (upd v12_1 (nI j12).toNatClampNeg (((v12_1 (nI j12).toNatClampNeg) + (0 : Int32)))), v12_2)) else (if ((upd v12_1 (nI j12).toNatClampNeg (((v12_1 (nI j12).toNatClampNeg) + (1 : Int32)))) (nI j12).toNatClampNeg) = (2 : Int32) then ((v12_0 + ((5 : Int32) * ((G 6) (nI j12).toNatClampNeg))), (upd v12_1 (nI j12).toNatClampNeg (((v12_1 (nI j12).toNatClampNeg) + (1 : Int32)))), (upd v12_2 (nI j12).toNatClampNeg ((v12_2 (nI j12).toNatClampNeg) + ((5 : Int32) * ((G 6) (nI j12).toNatClampNeg))))) else (v12_0, (upd v12_1 (nI j12).toNatClampNeg (((v12_1 (nI j12).toNatClampNeg) + (1 : Int32)))), v12_2))) else (if ((upd v12_1 (nI j12).toNatClampNeg (((v12_1 (nI j12).toNatClampNeg) + (0 : Int32)))) (nI j12).toNatClampNeg) = (2 : Int32) then ((v12_0 + ((5 : Int32) * ((G 6) (nI j12).toNatClampNeg))), (upd v12_1 (nI j12).toNatClampNeg (((v12_1 (nI j12).toNatClampNeg) + (0 : Int32)))), (upd v12_2 (nI j12).toNatClampNeg ((v12_2 (nI j12).toNatClampNeg) + ((5 : Int32) * ((G 6) (nI j12).toNatClampNeg))))) else (v12_0, (upd v12_1 (nI j12).toNatClampNeg (((v12_1 (nI j12).toNatClampNeg) + (0 : Int32)))), v12_2))))
def bX7_passes_142 (F : Nat → Int32) (G : Nat → Nat → Int32) (j129 : Nat) (v129_0 : Int32) (v129_1 : Nat → Int32) (v129_2 : Nat → Nat → Int32) (j142 : Nat) (v142 : Int32) : Int32 := (if ((v129_2 11) (nI j142).toNatClampNeg) = (-1 : Int32) then (v142) else (if (v129_1 1) < ((v129_2 11) (nI j142).toNatClampNeg) then (v142) else (if ((v129_0 >>> (nI j142 &&& 31)) &&& (1 : Int32)) = 0 then (if v142 = (-1 : Int32) then (nI j142) else (if (vX7_isAhead v129_1 v129_2 (nI j142) (v142)) = 0 then (v142) else (nI j142))) else (v142))))
def bX7_passes_129 (F : Nat → Int32) (G : Nat → Nat → Int32) (j129 : Nat) (v129 : Int32 × (Nat → Int32) × (Nat → Nat → Int32)) : Int32 × (Nat → Int32) × (Nat → Nat → Int32) := match v129 with | (v129_0, v129_1, v129_2) => (if (nf (bX7_passes_142 F G j129 v129_0 v129_1 v129_2) ((-1 : Int32)) (((v129_1 5)).toNatClampNeg)) = (-1 : Int32) then (v129_0, v129_1, v129_2) else ((v129_0 ||| ((1 : Int32) <<< ((nf (bX7_passes_142 F G j129 v129_0 v129_1 v129_2) ((-1 : Int32)) (((v129_1 5)).toNatClampNeg)) &&& 31))), (sX7_looksAt v129_1 v129_2 ((nf (bX7_passes_142 F G j129 v129_0 v129_1 v129_2) ((-1 : Int32)) (((v129_1 5)).toNatClampNeg)))).1, (sX7_looksAt v129_1 v129_2 ((nf (bX7_passes_142 F G j129 v129_0 v129_1 v129_2) ((-1 : Int32)) (((v129_1 5)).toNatClampNeg)))).2))
def sX7_passes (F : Nat → Int32) (G : Nat → Nat → Int32) : (Nat → Int32) × (Nat → Nat → Int32) := ((nf (bX7_passes_129 F G) ((0 : Int32), (hu (hu F 1 ((F 1) + (1 : Int32))) 19 (nf (bX7_passes_12 F G) ((F 19), (G 10), (G 13)) ((F 5).toNatClampNeg)).1), (hu (hu G 10 (nf (bX7_passes_12 F G) ((F 19), (G 10), (G 13)) ((F 5).toNatClampNeg)).2.1) 13 (nf (bX7_passes_12 F G) ((F 19), (G 10), (G 13)) ((F 5).toNatClampNeg)).2.2)) (((F 5)).toNatClampNeg)).2.1, (nf (bX7_passes_129 F G) ((0 : Int32), (hu (hu F 1 ((F 1) + (1 : Int32))) 19 (nf (bX7_passes_12 F G) ((F 19), (G 10), (G 13)) ((F 5).toNatClampNeg)).1), (hu (hu G 10 (nf (bX7_passes_12 F G) ((F 19), (G 10), (G 13)) ((F 5).toNatClampNeg)).2.1) 13 (nf (bX7_passes_12 F G) ((F 19), (G 10), (G 13)) ((F 5).toNatClampNeg)).2.2)) (((F 5)).toNatClampNeg)).2.2)
theorem passes_in (F : Nat → Int32) (G : Nat → Nat → Int32) (j129 : Nat) (v0 : Int32) (v1 : Nat → Int32) (v2 : Nat → Nat → Int32) : ∀ N, N ≤ 30 → nf (bX7_passes_142 F G j129 v0 v1 v2) (-1 : Int32) N = -1 ∨ vp_in (nf (bX7_passes_142 F G j129 v0 v1 v2) (-1 : Int32) N) 30 := by
  intro N
  induction N with
  | zero => intro _; exact Or.inl rfl
  | succ n ih =>
    intro hn
    rw [nf, bX7_passes_142]
    repeat' split
    all_goals first | exact ih (by omega) | exact Or.inr (vp_in_nI (by omega) (by decide))
theorem passes_inv (F : Nat → Int32) (G : Nat → Nat → Int32) (init : Int32 × (Nat → Int32) × (Nat → Nat → Int32)) (h0 : PI F init) : ∀ N, PI F (nf (bX7_passes_129 F G) init N) := by
  intro N
  induction N with
  | zero => exact h0
  | succ n ih =>
    rw [nf]
    generalize nf (bX7_passes_129 F G) init n = v at ih ⊢
    obtain ⟨v0, v1, v2⟩ := v
    obtain ⟨h1, h2, h3⟩ := ih
    dsimp only at h1 h2 h3
    rw [bX7_passes_129]
    have hin := passes_in F G n v0 v1 v2 (v1 5).toNatClampNeg (h1.2.1.cl (by decide))
    split
    · exact ⟨h1, h2, h3⟩
    · rename_i hq
      obtain ⟨k1, k2, k3⟩ := looksAt_inv h1 (hin.resolve_left hq)
      exact ⟨k1, k2.trans h2, k3.trans h3⟩
set_option maxRecDepth 100000 in
set_option maxHeartbeats 4000000 in
theorem k_X7_passes {l : Launch} (hl : l.stackTraces = false) {D : va_G} {Y : Nat → ClassId} {A : Nat → Prop} {E : State → Prop} (ad : Nat → Nat) (F : Nat → Int32) (G : Nat → Nat → Int32)  (hI : RI F G) (hn1 : ct (F 1 + (1 : Int32)) 3000) : KM l yX7_passes cX7_passes 6 none D Y A E 4 93 0 0 [.ref (ad 0)] (OR D Y A ad F G) none (OR D Y A ad (sX7_passes F G).1 (sX7_passes F G).2) := by
  refine KM_of RX7 [(0, .ref (ad 0))] rfl (by decide) hl (Nat.le_of_ble_eq_true rfl) rfl (lok_of rfl rfl) ?_
  intro p e s m args below meth c C0
  obtain ⟨hn, hs, hm, hb, hw, hr⟩ := id hI
  have hsc := hs.cl (by decide)
  refine j_aload_n C0 dX7_passes_0 rfl ?_
  refine j_dup C0 dX7_passes_1 rfl ?_
  refine r_gf_1 C0 (v := (F 1)) dX7_passes_2 rfl ?_
  refine j_iconst C0 (v := 1) dX7_passes_5 (by decide) ?_
  refine j_iadd C0 dX7_passes_6 ?_
  refine r_pf_1 C0 dX7_passes_7 ?_
  refine j_iconst C0 (v := 0) dX7_passes_10 (by decide) ?_
  refine j_istore_n C0 (L' := [(0, .ref (ad 0)), (1, .int ((0 : Int32)))]) dX7_passes_11 (by decide) rfl ?_
  refine hb_lp (P := fun (j : Nat) (v : Int32 × (Nat → Int32) × (Nat → Int32)) => J p l e _ s m args below meth c A 6 _ (OV D Y A ad (F 0) ((F 1) + (1 : Int32)) (F 5) (F 18) v.1 (F 20) (G 2) (G 3) (G 4) (G 6) (G 7) (G 8) (G 9) v.2.1 (G 11) (G 12) v.2.2 (G 14) (G 15) (G 16) (G 17) (G 21) (G 22) (G 23) (G 24) (G 25)) 0 0 12 [(0, .ref (ad 0)), (1, .int (nI j))] []) (bX7_passes_12 F G) ((F 19), (G 10), (G 13)) ((F 5).toNatClampNeg) ?_ ?_
  ·
    intro j12 hj12 K12
    generalize nf (bX7_passes_12 F G) ((F 19), (G 10), (G 13)) j12 = v12 at K12 ⊢
    obtain ⟨v12_0, v12_1, v12_2⟩ := v12
    show J p l e _ s m args below meth c A 6 _ (OV D Y A ad (F 0) ((F 1) + (1 : Int32)) (F 5) (F 18) v12_0 (F 20) (G 2) (G 3) (G 4) (G 6) (G 7) (G 8) (G 9) v12_1 (G 11) (G 12) v12_2 (G 14) (G 15) (G 16) (G 17) (G 21) (G 22) (G 23) (G 24) (G 25)) 0 0 12 [(0, .ref (ad 0)), (1, .int (nI j12))] []
    replace K12 : J p l e _ s m args below meth c A 6 _ (OV D Y A ad (F 0) ((F 1) + (1 : Int32)) (F 5) (F 18) (bX7_passes_12 F G j12 (v12_0, v12_1, v12_2)).1 (F 20) (G 2) (G 3) (G 4) (G 6) (G 7) (G 8) (G 9) (bX7_passes_12 F G j12 (v12_0, v12_1, v12_2)).2.1 (G 11) (G 12) (bX7_passes_12 F G j12 (v12_0, v12_1, v12_2)).2.2 (G 14) (G 15) (G 16) (G 17) (G 21) (G 22) (G 23) (G 24) (G 25)) 0 0 12 [(0, .ref (ad 0)), (1, .int (nI (j12 + 1)))] [] := K12
    refine j_iload_n C0 dX7_passes_12 rfl ?_
    refine j_aload_n C0 dX7_passes_13 rfl ?_
    refine r_gf_5 C0 (v := (F 5)) dX7_passes_14 rfl ?_
    refine j_icmp_ge C0 125 dX7_passes_17 (by decide) (fun z => absurd z (cl_lt rfl hj12)) (fun _ => ?_)
    refine j_aload_n C0 dX7_passes_20 rfl ?_
    refine r_gf_10 C0 dX7_passes_21 ?_
    refine j_iload_n C0 dX7_passes_24 rfl ?_
    refine r_ld_10 C0 (v := (v12_1 (nI j12).toNatClampNeg)) (vp_nI (by omega) (by decide)) dX7_passes_25 rfl ?_
    refine j_iconst C0 (v := 1) dX7_passes_26 (by decide) ?_
    refine j_icmp_eq C0 40 dX7_passes_27 (by decide) (fun (q2 : (v12_1 (nI j12).toNatClampNeg) = (1 : Int32)) => ?_) (fun (q2 : ¬ ((v12_1 (nI j12).toNatClampNeg) = (1 : Int32))) => ?_)
    ·
      refine j_aload_n C0 dX7_passes_40 rfl ?_
      refine r_gf_1 C0 (v := ((F 1) + (1 : Int32))) dX7_passes_41 rfl ?_
      refine j_aload_n C0 dX7_passes_44 rfl ?_
      refine r_gf_12 C0 dX7_passes_45 ?_
      refine j_iload_n C0 dX7_passes_48 rfl ?_
      refine r_ld_12 C0 (v := ((G 12) (nI j12).toNatClampNeg)) (vp_nI (by omega) (by decide)) dX7_passes_49 rfl ?_
      refine j_isub C0 dX7_passes_50 ?_
      refine j_iconst C0 (v := 2) dX7_passes_51 (by decide) ?_
      refine j_icmp_lt C0 59 dX7_passes_52 (by decide) (fun (q3 : (((F 1) + (1 : Int32)) - ((G 12) (nI j12).toNatClampNeg)) < (2 : Int32)) => ?_) (fun (q3 : ¬ ((((F 1) + (1 : Int32)) - ((G 12) (nI j12).toNatClampNeg)) < (2 : Int32))) => ?_)
      ·
        refine j_iconst C0 (v := 0) dX7_passes_59 (by decide) ?_
        refine j_istore_n C0 (L' := [(0, .ref (ad 0)), (1, .int (nI j12)), (2, .int ((0 : Int32)))]) dX7_passes_60 (by decide) rfl ?_
        refine j_aload_n C0 dX7_passes_61 rfl ?_
        refine r_gf_10 C0 dX7_passes_62 ?_
        refine j_iload_n C0 dX7_passes_65 rfl ?_
        refine j_dup2 C0 dX7_passes_66 rfl rfl ?_
        refine r_ld_10 C0 (v := (v12_1 (nI j12).toNatClampNeg)) (vp_nI (by omega) (by decide)) dX7_passes_67 rfl ?_
        refine j_iload_n C0 dX7_passes_68 rfl ?_
        refine j_if_eq C0 76 dX7_passes_69 (by decide) (fun _ => ?_) (fun z => absurd (by decide) z)
        refine j_iconst C0 (v := 0) dX7_passes_76 (by decide) ?_
        refine j_iadd C0 dX7_passes_77 ?_
        refine r_st_10 C0 (vp_nI (by omega) (by decide)) dX7_passes_78 ?_
        refine j_aload_n C0 dX7_passes_79 rfl ?_
        refine r_gf_10 C0 dX7_passes_80 ?_
        refine j_iload_n C0 dX7_passes_83 rfl ?_
        refine r_ld_10 C0 (v := ((upd v12_1 (nI j12).toNatClampNeg (((v12_1 (nI j12).toNatClampNeg) + (0 : Int32)))) (nI j12).toNatClampNeg)) (vp_nI (by omega) (by decide)) dX7_passes_84 rfl ?_
        refine j_iconst C0 (v := 2) dX7_passes_85 (by decide) ?_
        refine j_icmp_ne C0 119 dX7_passes_86 (by decide) (fun (q5 : ¬ (((upd v12_1 (nI j12).toNatClampNeg (((v12_1 (nI j12).toNatClampNeg) + (0 : Int32)))) (nI j12).toNatClampNeg) = (2 : Int32))) => ?_) (fun (q5 : ((upd v12_1 (nI j12).toNatClampNeg (((v12_1 (nI j12).toNatClampNeg) + (0 : Int32)))) (nI j12).toNatClampNeg) = (2 : Int32)) => ?_)
        ·
          refine j_iinc C0 (v := nI (j12 + 1)) (L' := [(0, .ref (ad 0)), (1, .int (nI (j12 + 1))), (2, .int ((0 : Int32)))]) dX7_passes_119 rfl (nI_inc j12) (by decide) rfl ?_
          refine j_goto C0 12 dX7_passes_122 (by decide) ?_
          rw [bX7_passes_12, if_pos q2, if_pos q3, if_neg q5] at K12
          refine j_locals (L' := [(0, .ref (ad 0)), (1, .int (nI (j12 + 1)))]) (fun q hq => by simp only [List.mem_cons, List.mem_nil_iff, or_false] at hq ⊢; rcases hq with rfl | rfl <;> simp) (lok_of rfl rfl) ?_
          exact K12
        ·
          refine j_aload_n C0 dX7_passes_89 rfl ?_
          refine j_iload_n C0 dX7_passes_90 rfl ?_
          refine j_iconst C0 (v := 5) dX7_passes_91 (by decide) ?_
          refine j_aload_n C0 dX7_passes_92 rfl ?_
          refine r_gf_6 C0 dX7_passes_93 ?_
          refine j_iload_n C0 dX7_passes_96 rfl ?_
          refine r_ld_6 C0 (v := ((G 6) (nI j12).toNatClampNeg)) (vp_nI (by omega) (by decide)) dX7_passes_97 rfl ?_
          refine j_imul C0 dX7_passes_98 ?_
          refine j_callVn C0 (k_X7_pays hl ad (hu (hu F 1 ((F 1) + (1 : Int32))) 19 v12_0) (hu (hu G 10 (upd v12_1 (nI j12).toNatClampNeg (((v12_1 (nI j12).toNatClampNeg) + (0 : Int32))))) 13 v12_2) (nI j12) (((5 : Int32) * ((G 6) (nI j12).toNatClampNeg))) (vp_nI (by omega) (by decide))) mv_X7_pays wm_X7_125 (r_recv C0) rfl rfl ⟨Nat.le_of_ble_eq_true rfl, Nat.le_of_ble_eq_true rfl⟩ (Nat.le_of_ble_eq_true rfl) ⟨Nat.le_refl _, Nat.le_refl _⟩ dX7_passes_99 ?_
          show J p l e _ s m args below meth c A 6 _ (OV D Y A ad (F 0) ((F 1) + (1 : Int32)) (F 5) (F 18) v12_0 (F 20) (G 2) (G 3) (G 4) (G 6) (G 7) (G 8) (G 9) (upd v12_1 (nI j12).toNatClampNeg (((v12_1 (nI j12).toNatClampNeg) + (0 : Int32)))) (G 11) (G 12) (upd v12_2 (nI j12).toNatClampNeg ((v12_2 (nI j12).toNatClampNeg) + ((5 : Int32) * ((G 6) (nI j12).toNatClampNeg)))) (G 14) (G 15) (G 16) (G 17) (G 21) (G 22) (G 23) (G 24) (G 25)) 0 0 102 [(0, .ref (ad 0)), (1, .int (nI j12)), (2, .int ((0 : Int32)))] []
          refine j_aload_n C0 dX7_passes_102 rfl ?_
          refine j_dup C0 dX7_passes_103 rfl ?_
          refine r_gf_19 C0 (v := v12_0) dX7_passes_104 rfl ?_
          refine j_iconst C0 (v := 5) dX7_passes_107 (by decide) ?_
          refine j_aload_n C0 dX7_passes_108 rfl ?_
          refine r_gf_6 C0 dX7_passes_109 ?_
          refine j_iload_n C0 dX7_passes_112 rfl ?_
          refine r_ld_6 C0 (v := ((G 6) (nI j12).toNatClampNeg)) (vp_nI (by omega) (by decide)) dX7_passes_113 rfl ?_
          refine j_imul C0 dX7_passes_114 ?_
          refine j_iadd C0 dX7_passes_115 ?_
          refine r_pf_19 C0 dX7_passes_116 ?_
          refine j_iinc C0 (v := nI (j12 + 1)) (L' := [(0, .ref (ad 0)), (1, .int (nI (j12 + 1))), (2, .int ((0 : Int32)))]) dX7_passes_119 rfl (nI_inc j12) (by decide) rfl ?_
          refine j_goto C0 12 dX7_passes_122 (by decide) ?_
          rw [bX7_passes_12, if_pos q2, if_pos q3, if_pos q5] at K12
          refine j_locals (L' := [(0, .ref (ad 0)), (1, .int (nI (j12 + 1)))]) (fun q hq => by simp only [List.mem_cons, List.mem_nil_iff, or_false] at hq ⊢; rcases hq with rfl | rfl <;> simp) (lok_of rfl rfl) ?_
          exact K12
      ·
        refine j_iconst C0 (v := 1) dX7_passes_55 (by decide) ?_
        refine j_goto C0 60 dX7_passes_56 (by decide) ?_
        refine j_istore_n C0 (L' := [(0, .ref (ad 0)), (1, .int (nI j12)), (2, .int ((1 : Int32)))]) dX7_passes_60 (by decide) rfl ?_
        refine j_aload_n C0 dX7_passes_61 rfl ?_
        refine r_gf_10 C0 dX7_passes_62 ?_
        refine j_iload_n C0 dX7_passes_65 rfl ?_
        refine j_dup2 C0 dX7_passes_66 rfl rfl ?_
        refine r_ld_10 C0 (v := (v12_1 (nI j12).toNatClampNeg)) (vp_nI (by omega) (by decide)) dX7_passes_67 rfl ?_
        refine j_iload_n C0 dX7_passes_68 rfl ?_
        refine j_if_eq C0 76 dX7_passes_69 (by decide) (fun z => absurd z (by decide)) (fun _ => ?_)
        refine j_iconst C0 (v := 1) dX7_passes_72 (by decide) ?_
        refine j_goto C0 77 dX7_passes_73 (by decide) ?_
        refine j_iadd C0 dX7_passes_77 ?_
        refine r_st_10 C0 (vp_nI (by omega) (by decide)) dX7_passes_78 ?_
        refine j_aload_n C0 dX7_passes_79 rfl ?_
        refine r_gf_10 C0 dX7_passes_80 ?_
        refine j_iload_n C0 dX7_passes_83 rfl ?_
        refine r_ld_10 C0 (v := ((upd v12_1 (nI j12).toNatClampNeg (((v12_1 (nI j12).toNatClampNeg) + (1 : Int32)))) (nI j12).toNatClampNeg)) (vp_nI (by omega) (by decide)) dX7_passes_84 rfl ?_
        refine j_iconst C0 (v := 2) dX7_passes_85 (by decide) ?_
        refine j_icmp_ne C0 119 dX7_passes_86 (by decide) (fun (q7 : ¬ (((upd v12_1 (nI j12).toNatClampNeg (((v12_1 (nI j12).toNatClampNeg) + (1 : Int32)))) (nI j12).toNatClampNeg) = (2 : Int32))) => ?_) (fun (q7 : ((upd v12_1 (nI j12).toNatClampNeg (((v12_1 (nI j12).toNatClampNeg) + (1 : Int32)))) (nI j12).toNatClampNeg) = (2 : Int32)) => ?_)
        ·
          refine j_iinc C0 (v := nI (j12 + 1)) (L' := [(0, .ref (ad 0)), (1, .int (nI (j12 + 1))), (2, .int ((1 : Int32)))]) dX7_passes_119 rfl (nI_inc j12) (by decide) rfl ?_
          refine j_goto C0 12 dX7_passes_122 (by decide) ?_
          rw [bX7_passes_12, if_pos q2, if_neg q3, if_neg q7] at K12
          refine j_locals (L' := [(0, .ref (ad 0)), (1, .int (nI (j12 + 1)))]) (fun q hq => by simp only [List.mem_cons, List.mem_nil_iff, or_false] at hq ⊢; rcases hq with rfl | rfl <;> simp) (lok_of rfl rfl) ?_
          exact K12
        ·
          refine j_aload_n C0 dX7_passes_89 rfl ?_
          refine j_iload_n C0 dX7_passes_90 rfl ?_
          refine j_iconst C0 (v := 5) dX7_passes_91 (by decide) ?_
          refine j_aload_n C0 dX7_passes_92 rfl ?_
          refine r_gf_6 C0 dX7_passes_93 ?_
          refine j_iload_n C0 dX7_passes_96 rfl ?_
          refine r_ld_6 C0 (v := ((G 6) (nI j12).toNatClampNeg)) (vp_nI (by omega) (by decide)) dX7_passes_97 rfl ?_
          refine j_imul C0 dX7_passes_98 ?_
          refine j_callVn C0 (k_X7_pays hl ad (hu (hu F 1 ((F 1) + (1 : Int32))) 19 v12_0) (hu (hu G 10 (upd v12_1 (nI j12).toNatClampNeg (((v12_1 (nI j12).toNatClampNeg) + (1 : Int32))))) 13 v12_2) (nI j12) (((5 : Int32) * ((G 6) (nI j12).toNatClampNeg))) (vp_nI (by omega) (by decide))) mv_X7_pays wm_X7_125 (r_recv C0) rfl rfl ⟨Nat.le_of_ble_eq_true rfl, Nat.le_of_ble_eq_true rfl⟩ (Nat.le_of_ble_eq_true rfl) ⟨Nat.le_refl _, Nat.le_refl _⟩ dX7_passes_99 ?_
          show J p l e _ s m args below meth c A 6 _ (OV D Y A ad (F 0) ((F 1) + (1 : Int32)) (F 5) (F 18) v12_0 (F 20) (G 2) (G 3) (G 4) (G 6) (G 7) (G 8) (G 9) (upd v12_1 (nI j12).toNatClampNeg (((v12_1 (nI j12).toNatClampNeg) + (1 : Int32)))) (G 11) (G 12) (upd v12_2 (nI j12).toNatClampNeg ((v12_2 (nI j12).toNatClampNeg) + ((5 : Int32) * ((G 6) (nI j12).toNatClampNeg)))) (G 14) (G 15) (G 16) (G 17) (G 21) (G 22) (G 23) (G 24) (G 25)) 0 0 102 [(0, .ref (ad 0)), (1, .int (nI j12)), (2, .int ((1 : Int32)))] []
          refine j_aload_n C0 dX7_passes_102 rfl ?_
          refine j_dup C0 dX7_passes_103 rfl ?_
          refine r_gf_19 C0 (v := v12_0) dX7_passes_104 rfl ?_
          refine j_iconst C0 (v := 5) dX7_passes_107 (by decide) ?_
          refine j_aload_n C0 dX7_passes_108 rfl ?_
          refine r_gf_6 C0 dX7_passes_109 ?_
          refine j_iload_n C0 dX7_passes_112 rfl ?_
          refine r_ld_6 C0 (v := ((G 6) (nI j12).toNatClampNeg)) (vp_nI (by omega) (by decide)) dX7_passes_113 rfl ?_
          refine j_imul C0 dX7_passes_114 ?_
          refine j_iadd C0 dX7_passes_115 ?_
          refine r_pf_19 C0 dX7_passes_116 ?_
          refine j_iinc C0 (v := nI (j12 + 1)) (L' := [(0, .ref (ad 0)), (1, .int (nI (j12 + 1))), (2, .int ((1 : Int32)))]) dX7_passes_119 rfl (nI_inc j12) (by decide) rfl ?_
          refine j_goto C0 12 dX7_passes_122 (by decide) ?_
          rw [bX7_passes_12, if_pos q2, if_neg q3, if_pos q7] at K12
          refine j_locals (L' := [(0, .ref (ad 0)), (1, .int (nI (j12 + 1)))]) (fun q hq => by simp only [List.mem_cons, List.mem_nil_iff, or_false] at hq ⊢; rcases hq with rfl | rfl <;> simp) (lok_of rfl rfl) ?_
          exact K12
    ·
      refine j_aload_n C0 dX7_passes_30 rfl ?_
      refine r_gf_10 C0 dX7_passes_31 ?_
      refine j_iload_n C0 dX7_passes_34 rfl ?_
      refine r_ld_10 C0 (v := (v12_1 (nI j12).toNatClampNeg)) (vp_nI (by omega) (by decide)) dX7_passes_35 rfl ?_
      refine j_iconst C0 (v := 3) dX7_passes_36 (by decide) ?_
      refine j_icmp_ne C0 59 dX7_passes_37 (by decide) (fun (q8 : ¬ ((v12_1 (nI j12).toNatClampNeg) = (3 : Int32))) => ?_) (fun (q8 : (v12_1 (nI j12).toNatClampNeg) = (3 : Int32)) => ?_)
      ·
        refine j_iconst C0 (v := 0) dX7_passes_59 (by decide) ?_
        refine j_istore_n C0 (L' := [(0, .ref (ad 0)), (1, .int (nI j12)), (2, .int ((0 : Int32)))]) dX7_passes_60 (by decide) rfl ?_
        refine j_aload_n C0 dX7_passes_61 rfl ?_
        refine r_gf_10 C0 dX7_passes_62 ?_
        refine j_iload_n C0 dX7_passes_65 rfl ?_
        refine j_dup2 C0 dX7_passes_66 rfl rfl ?_
        refine r_ld_10 C0 (v := (v12_1 (nI j12).toNatClampNeg)) (vp_nI (by omega) (by decide)) dX7_passes_67 rfl ?_
        refine j_iload_n C0 dX7_passes_68 rfl ?_
        refine j_if_eq C0 76 dX7_passes_69 (by decide) (fun _ => ?_) (fun z => absurd (by decide) z)
        refine j_iconst C0 (v := 0) dX7_passes_76 (by decide) ?_
        refine j_iadd C0 dX7_passes_77 ?_
        refine r_st_10 C0 (vp_nI (by omega) (by decide)) dX7_passes_78 ?_
        refine j_aload_n C0 dX7_passes_79 rfl ?_
        refine r_gf_10 C0 dX7_passes_80 ?_
        refine j_iload_n C0 dX7_passes_83 rfl ?_
        refine r_ld_10 C0 (v := ((upd v12_1 (nI j12).toNatClampNeg (((v12_1 (nI j12).toNatClampNeg) + (0 : Int32)))) (nI j12).toNatClampNeg)) (vp_nI (by omega) (by decide)) dX7_passes_84 rfl ?_
        refine j_iconst C0 (v := 2) dX7_passes_85 (by decide) ?_
        refine j_icmp_ne C0 119 dX7_passes_86 (by decide) (fun (q10 : ¬ (((upd v12_1 (nI j12).toNatClampNeg (((v12_1 (nI j12).toNatClampNeg) + (0 : Int32)))) (nI j12).toNatClampNeg) = (2 : Int32))) => ?_) (fun (q10 : ((upd v12_1 (nI j12).toNatClampNeg (((v12_1 (nI j12).toNatClampNeg) + (0 : Int32)))) (nI j12).toNatClampNeg) = (2 : Int32)) => ?_)
        ·
          refine j_iinc C0 (v := nI (j12 + 1)) (L' := [(0, .ref (ad 0)), (1, .int (nI (j12 + 1))), (2, .int ((0 : Int32)))]) dX7_passes_119 rfl (nI_inc j12) (by decide) rfl ?_
          refine j_goto C0 12 dX7_passes_122 (by decide) ?_
          rw [bX7_passes_12, if_neg q2, if_neg q8, if_neg q10] at K12
          refine j_locals (L' := [(0, .ref (ad 0)), (1, .int (nI (j12 + 1)))]) (fun q hq => by simp only [List.mem_cons, List.mem_nil_iff, or_false] at hq ⊢; rcases hq with rfl | rfl <;> simp) (lok_of rfl rfl) ?_
          exact K12
        ·
          refine j_aload_n C0 dX7_passes_89 rfl ?_
          refine j_iload_n C0 dX7_passes_90 rfl ?_
          refine j_iconst C0 (v := 5) dX7_passes_91 (by decide) ?_
          refine j_aload_n C0 dX7_passes_92 rfl ?_
          refine r_gf_6 C0 dX7_passes_93 ?_
          refine j_iload_n C0 dX7_passes_96 rfl ?_
          refine r_ld_6 C0 (v := ((G 6) (nI j12).toNatClampNeg)) (vp_nI (by omega) (by decide)) dX7_passes_97 rfl ?_
          refine j_imul C0 dX7_passes_98 ?_
          refine j_callVn C0 (k_X7_pays hl ad (hu (hu F 1 ((F 1) + (1 : Int32))) 19 v12_0) (hu (hu G 10 (upd v12_1 (nI j12).toNatClampNeg (((v12_1 (nI j12).toNatClampNeg) + (0 : Int32))))) 13 v12_2) (nI j12) (((5 : Int32) * ((G 6) (nI j12).toNatClampNeg))) (vp_nI (by omega) (by decide))) mv_X7_pays wm_X7_125 (r_recv C0) rfl rfl ⟨Nat.le_of_ble_eq_true rfl, Nat.le_of_ble_eq_true rfl⟩ (Nat.le_of_ble_eq_true rfl) ⟨Nat.le_refl _, Nat.le_refl _⟩ dX7_passes_99 ?_
          show J p l e _ s m args below meth c A 6 _ (OV D Y A ad (F 0) ((F 1) + (1 : Int32)) (F 5) (F 18) v12_0 (F 20) (G 2) (G 3) (G 4) (G 6) (G 7) (G 8) (G 9) (upd v12_1 (nI j12).toNatClampNeg (((v12_1 (nI j12).toNatClampNeg) + (0 : Int32)))) (G 11) (G 12) (upd v12_2 (nI j12).toNatClampNeg ((v12_2 (nI j12).toNatClampNeg) + ((5 : Int32) * ((G 6) (nI j12).toNatClampNeg)))) (G 14) (G 15) (G 16) (G 17) (G 21) (G 22) (G 23) (G 24) (G 25)) 0 0 102 [(0, .ref (ad 0)), (1, .int (nI j12)), (2, .int ((0 : Int32)))] []
          refine j_aload_n C0 dX7_passes_102 rfl ?_
          refine j_dup C0 dX7_passes_103 rfl ?_
          refine r_gf_19 C0 (v := v12_0) dX7_passes_104 rfl ?_
          refine j_iconst C0 (v := 5) dX7_passes_107 (by decide) ?_
          refine j_aload_n C0 dX7_passes_108 rfl ?_
          refine r_gf_6 C0 dX7_passes_109 ?_
          refine j_iload_n C0 dX7_passes_112 rfl ?_
          refine r_ld_6 C0 (v := ((G 6) (nI j12).toNatClampNeg)) (vp_nI (by omega) (by decide)) dX7_passes_113 rfl ?_
          refine j_imul C0 dX7_passes_114 ?_
          refine j_iadd C0 dX7_passes_115 ?_
          refine r_pf_19 C0 dX7_passes_116 ?_
          refine j_iinc C0 (v := nI (j12 + 1)) (L' := [(0, .ref (ad 0)), (1, .int (nI (j12 + 1))), (2, .int ((0 : Int32)))]) dX7_passes_119 rfl (nI_inc j12) (by decide) rfl ?_
          refine j_goto C0 12 dX7_passes_122 (by decide) ?_
          rw [bX7_passes_12, if_neg q2, if_neg q8, if_pos q10] at K12
          refine j_locals (L' := [(0, .ref (ad 0)), (1, .int (nI (j12 + 1)))]) (fun q hq => by simp only [List.mem_cons, List.mem_nil_iff, or_false] at hq ⊢; rcases hq with rfl | rfl <;> simp) (lok_of rfl rfl) ?_
          exact K12
      ·
        refine j_aload_n C0 dX7_passes_40 rfl ?_
        refine r_gf_1 C0 (v := ((F 1) + (1 : Int32))) dX7_passes_41 rfl ?_
        refine j_aload_n C0 dX7_passes_44 rfl ?_
        refine r_gf_12 C0 dX7_passes_45 ?_
        refine j_iload_n C0 dX7_passes_48 rfl ?_
        refine r_ld_12 C0 (v := ((G 12) (nI j12).toNatClampNeg)) (vp_nI (by omega) (by decide)) dX7_passes_49 rfl ?_
        refine j_isub C0 dX7_passes_50 ?_
        refine j_iconst C0 (v := 2) dX7_passes_51 (by decide) ?_
        refine j_icmp_lt C0 59 dX7_passes_52 (by decide) (fun (q11 : (((F 1) + (1 : Int32)) - ((G 12) (nI j12).toNatClampNeg)) < (2 : Int32)) => ?_) (fun (q11 : ¬ ((((F 1) + (1 : Int32)) - ((G 12) (nI j12).toNatClampNeg)) < (2 : Int32))) => ?_)
        ·
          refine j_iconst C0 (v := 0) dX7_passes_59 (by decide) ?_
          refine j_istore_n C0 (L' := [(0, .ref (ad 0)), (1, .int (nI j12)), (2, .int ((0 : Int32)))]) dX7_passes_60 (by decide) rfl ?_
          refine j_aload_n C0 dX7_passes_61 rfl ?_
          refine r_gf_10 C0 dX7_passes_62 ?_
          refine j_iload_n C0 dX7_passes_65 rfl ?_
          refine j_dup2 C0 dX7_passes_66 rfl rfl ?_
          refine r_ld_10 C0 (v := (v12_1 (nI j12).toNatClampNeg)) (vp_nI (by omega) (by decide)) dX7_passes_67 rfl ?_
          refine j_iload_n C0 dX7_passes_68 rfl ?_
          refine j_if_eq C0 76 dX7_passes_69 (by decide) (fun _ => ?_) (fun z => absurd (by decide) z)
          refine j_iconst C0 (v := 0) dX7_passes_76 (by decide) ?_
          refine j_iadd C0 dX7_passes_77 ?_
          refine r_st_10 C0 (vp_nI (by omega) (by decide)) dX7_passes_78 ?_
          refine j_aload_n C0 dX7_passes_79 rfl ?_
          refine r_gf_10 C0 dX7_passes_80 ?_
          refine j_iload_n C0 dX7_passes_83 rfl ?_
          refine r_ld_10 C0 (v := ((upd v12_1 (nI j12).toNatClampNeg (((v12_1 (nI j12).toNatClampNeg) + (0 : Int32)))) (nI j12).toNatClampNeg)) (vp_nI (by omega) (by decide)) dX7_passes_84 rfl ?_
          refine j_iconst C0 (v := 2) dX7_passes_85 (by decide) ?_
          refine j_icmp_ne C0 119 dX7_passes_86 (by decide) (fun (q13 : ¬ (((upd v12_1 (nI j12).toNatClampNeg (((v12_1 (nI j12).toNatClampNeg) + (0 : Int32)))) (nI j12).toNatClampNeg) = (2 : Int32))) => ?_) (fun (q13 : ((upd v12_1 (nI j12).toNatClampNeg (((v12_1 (nI j12).toNatClampNeg) + (0 : Int32)))) (nI j12).toNatClampNeg) = (2 : Int32)) => ?_)
          ·
            refine j_iinc C0 (v := nI (j12 + 1)) (L' := [(0, .ref (ad 0)), (1, .int (nI (j12 + 1))), (2, .int ((0 : Int32)))]) dX7_passes_119 rfl (nI_inc j12) (by decide) rfl ?_
            refine j_goto C0 12 dX7_passes_122 (by decide) ?_
            rw [bX7_passes_12, if_neg q2, if_pos q8, if_pos q11, if_neg q13] at K12
            refine j_locals (L' := [(0, .ref (ad 0)), (1, .int (nI (j12 + 1)))]) (fun q hq => by simp only [List.mem_cons, List.mem_nil_iff, or_false] at hq ⊢; rcases hq with rfl | rfl <;> simp) (lok_of rfl rfl) ?_
            exact K12
          ·
            refine j_aload_n C0 dX7_passes_89 rfl ?_
            refine j_iload_n C0 dX7_passes_90 rfl ?_
            refine j_iconst C0 (v := 5) dX7_passes_91 (by decide) ?_
            refine j_aload_n C0 dX7_passes_92 rfl ?_
            refine r_gf_6 C0 dX7_passes_93 ?_
            refine j_iload_n C0 dX7_passes_96 rfl ?_
            refine r_ld_6 C0 (v := ((G 6) (nI j12).toNatClampNeg)) (vp_nI (by omega) (by decide)) dX7_passes_97 rfl ?_
            refine j_imul C0 dX7_passes_98 ?_
            refine j_callVn C0 (k_X7_pays hl ad (hu (hu F 1 ((F 1) + (1 : Int32))) 19 v12_0) (hu (hu G 10 (upd v12_1 (nI j12).toNatClampNeg (((v12_1 (nI j12).toNatClampNeg) + (0 : Int32))))) 13 v12_2) (nI j12) (((5 : Int32) * ((G 6) (nI j12).toNatClampNeg))) (vp_nI (by omega) (by decide))) mv_X7_pays wm_X7_125 (r_recv C0) rfl rfl ⟨Nat.le_of_ble_eq_true rfl, Nat.le_of_ble_eq_true rfl⟩ (Nat.le_of_ble_eq_true rfl) ⟨Nat.le_refl _, Nat.le_refl _⟩ dX7_passes_99 ?_
            show J p l e _ s m args below meth c A 6 _ (OV D Y A ad (F 0) ((F 1) + (1 : Int32)) (F 5) (F 18) v12_0 (F 20) (G 2) (G 3) (G 4) (G 6) (G 7) (G 8) (G 9) (upd v12_1 (nI j12).toNatClampNeg (((v12_1 (nI j12).toNatClampNeg) + (0 : Int32)))) (G 11) (G 12) (upd v12_2 (nI j12).toNatClampNeg ((v12_2 (nI j12).toNatClampNeg) + ((5 : Int32) * ((G 6) (nI j12).toNatClampNeg)))) (G 14) (G 15) (G 16) (G 17) (G 21) (G 22) (G 23) (G 24) (G 25)) 0 0 102 [(0, .ref (ad 0)), (1, .int (nI j12)), (2, .int ((0 : Int32)))] []
            refine j_aload_n C0 dX7_passes_102 rfl ?_
            refine j_dup C0 dX7_passes_103 rfl ?_
            refine r_gf_19 C0 (v := v12_0) dX7_passes_104 rfl ?_
            refine j_iconst C0 (v := 5) dX7_passes_107 (by decide) ?_
            refine j_aload_n C0 dX7_passes_108 rfl ?_
            refine r_gf_6 C0 dX7_passes_109 ?_
            refine j_iload_n C0 dX7_passes_112 rfl ?_
            refine r_ld_6 C0 (v := ((G 6) (nI j12).toNatClampNeg)) (vp_nI (by omega) (by decide)) dX7_passes_113 rfl ?_
            refine j_imul C0 dX7_passes_114 ?_
            refine j_iadd C0 dX7_passes_115 ?_
            refine r_pf_19 C0 dX7_passes_116 ?_
            refine j_iinc C0 (v := nI (j12 + 1)) (L' := [(0, .ref (ad 0)), (1, .int (nI (j12 + 1))), (2, .int ((0 : Int32)))]) dX7_passes_119 rfl (nI_inc j12) (by decide) rfl ?_
            refine j_goto C0 12 dX7_passes_122 (by decide) ?_
            rw [bX7_passes_12, if_neg q2, if_pos q8, if_pos q11, if_pos q13] at K12
            refine j_locals (L' := [(0, .ref (ad 0)), (1, .int (nI (j12 + 1)))]) (fun q hq => by simp only [List.mem_cons, List.mem_nil_iff, or_false] at hq ⊢; rcases hq with rfl | rfl <;> simp) (lok_of rfl rfl) ?_
            exact K12
        ·
          refine j_iconst C0 (v := 1) dX7_passes_55 (by decide) ?_
          refine j_goto C0 60 dX7_passes_56 (by decide) ?_
          refine j_istore_n C0 (L' := [(0, .ref (ad 0)), (1, .int (nI j12)), (2, .int ((1 : Int32)))]) dX7_passes_60 (by decide) rfl ?_
          refine j_aload_n C0 dX7_passes_61 rfl ?_
          refine r_gf_10 C0 dX7_passes_62 ?_
          refine j_iload_n C0 dX7_passes_65 rfl ?_
          refine j_dup2 C0 dX7_passes_66 rfl rfl ?_
          refine r_ld_10 C0 (v := (v12_1 (nI j12).toNatClampNeg)) (vp_nI (by omega) (by decide)) dX7_passes_67 rfl ?_
          refine j_iload_n C0 dX7_passes_68 rfl ?_
          refine j_if_eq C0 76 dX7_passes_69 (by decide) (fun z => absurd z (by decide)) (fun _ => ?_)
          refine j_iconst C0 (v := 1) dX7_passes_72 (by decide) ?_
          refine j_goto C0 77 dX7_passes_73 (by decide) ?_
          refine j_iadd C0 dX7_passes_77 ?_
          refine r_st_10 C0 (vp_nI (by omega) (by decide)) dX7_passes_78 ?_
          refine j_aload_n C0 dX7_passes_79 rfl ?_
          refine r_gf_10 C0 dX7_passes_80 ?_
          refine j_iload_n C0 dX7_passes_83 rfl ?_
          refine r_ld_10 C0 (v := ((upd v12_1 (nI j12).toNatClampNeg (((v12_1 (nI j12).toNatClampNeg) + (1 : Int32)))) (nI j12).toNatClampNeg)) (vp_nI (by omega) (by decide)) dX7_passes_84 rfl ?_
          refine j_iconst C0 (v := 2) dX7_passes_85 (by decide) ?_
          refine j_icmp_ne C0 119 dX7_passes_86 (by decide) (fun (q15 : ¬ (((upd v12_1 (nI j12).toNatClampNeg (((v12_1 (nI j12).toNatClampNeg) + (1 : Int32)))) (nI j12).toNatClampNeg) = (2 : Int32))) => ?_) (fun (q15 : ((upd v12_1 (nI j12).toNatClampNeg (((v12_1 (nI j12).toNatClampNeg) + (1 : Int32)))) (nI j12).toNatClampNeg) = (2 : Int32)) => ?_)
          ·
            refine j_iinc C0 (v := nI (j12 + 1)) (L' := [(0, .ref (ad 0)), (1, .int (nI (j12 + 1))), (2, .int ((1 : Int32)))]) dX7_passes_119 rfl (nI_inc j12) (by decide) rfl ?_
            refine j_goto C0 12 dX7_passes_122 (by decide) ?_
            rw [bX7_passes_12, if_neg q2, if_pos q8, if_neg q11, if_neg q15] at K12
            refine j_locals (L' := [(0, .ref (ad 0)), (1, .int (nI (j12 + 1)))]) (fun q hq => by simp only [List.mem_cons, List.mem_nil_iff, or_false] at hq ⊢; rcases hq with rfl | rfl <;> simp) (lok_of rfl rfl) ?_
            exact K12
          ·
            refine j_aload_n C0 dX7_passes_89 rfl ?_
            refine j_iload_n C0 dX7_passes_90 rfl ?_
            refine j_iconst C0 (v := 5) dX7_passes_91 (by decide) ?_
            refine j_aload_n C0 dX7_passes_92 rfl ?_
            refine r_gf_6 C0 dX7_passes_93 ?_
            refine j_iload_n C0 dX7_passes_96 rfl ?_
            refine r_ld_6 C0 (v := ((G 6) (nI j12).toNatClampNeg)) (vp_nI (by omega) (by decide)) dX7_passes_97 rfl ?_
            refine j_imul C0 dX7_passes_98 ?_
            refine j_callVn C0 (k_X7_pays hl ad (hu (hu F 1 ((F 1) + (1 : Int32))) 19 v12_0) (hu (hu G 10 (upd v12_1 (nI j12).toNatClampNeg (((v12_1 (nI j12).toNatClampNeg) + (1 : Int32))))) 13 v12_2) (nI j12) (((5 : Int32) * ((G 6) (nI j12).toNatClampNeg))) (vp_nI (by omega) (by decide))) mv_X7_pays wm_X7_125 (r_recv C0) rfl rfl ⟨Nat.le_of_ble_eq_true rfl, Nat.le_of_ble_eq_true rfl⟩ (Nat.le_of_ble_eq_true rfl) ⟨Nat.le_refl _, Nat.le_refl _⟩ dX7_passes_99 ?_
            show J p l e _ s m args below meth c A 6 _ (OV D Y A ad (F 0) ((F 1) + (1 : Int32)) (F 5) (F 18) v12_0 (F 20) (G 2) (G 3) (G 4) (G 6) (G 7) (G 8) (G 9) (upd v12_1 (nI j12).toNatClampNeg (((v12_1 (nI j12).toNatClampNeg) + (1 : Int32)))) (G 11) (G 12) (upd v12_2 (nI j12).toNatClampNeg ((v12_2 (nI j12).toNatClampNeg) + ((5 : Int32) * ((G 6) (nI j12).toNatClampNeg)))) (G 14) (G 15) (G 16) (G 17) (G 21) (G 22) (G 23) (G 24) (G 25)) 0 0 102 [(0, .ref (ad 0)), (1, .int (nI j12)), (2, .int ((1 : Int32)))] []
            refine j_aload_n C0 dX7_passes_102 rfl ?_
            refine j_dup C0 dX7_passes_103 rfl ?_
            refine r_gf_19 C0 (v := v12_0) dX7_passes_104 rfl ?_
            refine j_iconst C0 (v := 5) dX7_passes_107 (by decide) ?_
            refine j_aload_n C0 dX7_passes_108 rfl ?_
            refine r_gf_6 C0 dX7_passes_109 ?_
            refine j_iload_n C0 dX7_passes_112 rfl ?_
            refine r_ld_6 C0 (v := ((G 6) (nI j12).toNatClampNeg)) (vp_nI (by omega) (by decide)) dX7_passes_113 rfl ?_
            refine j_imul C0 dX7_passes_114 ?_
            refine j_iadd C0 dX7_passes_115 ?_
            refine r_pf_19 C0 dX7_passes_116 ?_
            refine j_iinc C0 (v := nI (j12 + 1)) (L' := [(0, .ref (ad 0)), (1, .int (nI (j12 + 1))), (2, .int ((1 : Int32)))]) dX7_passes_119 rfl (nI_inc j12) (by decide) rfl ?_
            refine j_goto C0 12 dX7_passes_122 (by decide) ?_
            rw [bX7_passes_12, if_neg q2, if_pos q8, if_neg q11, if_pos q15] at K12
            refine j_locals (L' := [(0, .ref (ad 0)), (1, .int (nI (j12 + 1)))]) (fun q hq => by simp only [List.mem_cons, List.mem_nil_iff, or_false] at hq ⊢; rcases hq with rfl | rfl <;> simp) (lok_of rfl rfl) ?_
            exact K12
  ·
    show J p l e _ s m args below meth c A 6 _ (OV D Y A ad (F 0) ((F 1) + (1 : Int32)) (F 5) (F 18) (nf (bX7_passes_12 F G) ((F 19), (G 10), (G 13)) ((F 5).toNatClampNeg)).1 (F 20) (G 2) (G 3) (G 4) (G 6) (G 7) (G 8) (G 9) (nf (bX7_passes_12 F G) ((F 19), (G 10), (G 13)) ((F 5).toNatClampNeg)).2.1 (G 11) (G 12) (nf (bX7_passes_12 F G) ((F 19), (G 10), (G 13)) ((F 5).toNatClampNeg)).2.2 (G 14) (G 15) (G 16) (G 17) (G 21) (G 22) (G 23) (G 24) (G 25)) 0 0 12 [(0, .ref (ad 0)), (1, .int (nI (((F 5).toNatClampNeg))))] []
    refine j_iload_n C0 dX7_passes_12 rfl ?_
    refine j_aload_n C0 dX7_passes_13 rfl ?_
    refine r_gf_5 C0 (v := (F 5)) dX7_passes_14 rfl ?_
    refine j_icmp_ge C0 125 dX7_passes_17 (by decide) (fun _ => ?_) (fun z => absurd (cl_le rfl) z)
    refine j_iconst C0 (v := 0) dX7_passes_125 (by decide) ?_
    refine j_istore_n C0 (L' := [(0, .ref (ad 0)), (1, .int ((0 : Int32)))]) dX7_passes_126 (by decide) rfl ?_
    refine j_iconst C0 (v := 0) dX7_passes_127 (by decide) ?_
    refine j_istore_n C0 (L' := [(0, .ref (ad 0)), (1, .int ((0 : Int32))), (2, .int ((0 : Int32)))]) dX7_passes_128 (by decide) rfl ?_
    refine hb_lp (P := fun (j : Nat) (v : Int32 × (Nat → Int32) × (Nat → Nat → Int32)) => J p l e _ s m args below meth c A 6 _ (OV D Y A ad (v.2.1 0) (v.2.1 1) (v.2.1 5) (v.2.1 18) (v.2.1 19) (v.2.1 20) (v.2.2 2) (v.2.2 3) (v.2.2 4) (v.2.2 6) (v.2.2 7) (v.2.2 8) (v.2.2 9) (v.2.2 10) (v.2.2 11) (v.2.2 12) (v.2.2 13) (v.2.2 14) (v.2.2 15) (v.2.2 16) (v.2.2 17) (v.2.2 21) (v.2.2 22) (v.2.2 23) (v.2.2 24) (v.2.2 25)) 0 0 129 [(0, .ref (ad 0)), (1, .int (v.1)), (2, .int (nI j))] []) (bX7_passes_129 F G) ((0 : Int32), (hu (hu F 1 ((F 1) + (1 : Int32))) 19 (nf (bX7_passes_12 F G) ((F 19), (G 10), (G 13)) ((F 5).toNatClampNeg)).1), (hu (hu G 10 (nf (bX7_passes_12 F G) ((F 19), (G 10), (G 13)) ((F 5).toNatClampNeg)).2.1) 13 (nf (bX7_passes_12 F G) ((F 19), (G 10), (G 13)) ((F 5).toNatClampNeg)).2.2)) (((F 5)).toNatClampNeg) ?_ ?_
    ·
      intro j129 hj129 K129
      have hv129 := passes_inv F G ((0 : Int32), (hu (hu F 1 ((F 1) + (1 : Int32))) 19 (nf (bX7_passes_12 F G) ((F 19), (G 10), (G 13)) ((F 5).toNatClampNeg)).1), (hu (hu G 10 (nf (bX7_passes_12 F G) ((F 19), (G 10), (G 13)) ((F 5).toNatClampNeg)).2.1) 13 (nf (bX7_passes_12 F G) ((F 19), (G 10), (G 13)) ((F 5).toNatClampNeg)).2.2)) ⟨⟨hn1, hs, hm, hb, hw, hr⟩, rfl, rfl⟩ j129
      generalize nf (bX7_passes_129 F G) ((0 : Int32), (hu (hu F 1 ((F 1) + (1 : Int32))) 19 (nf (bX7_passes_12 F G) ((F 19), (G 10), (G 13)) ((F 5).toNatClampNeg)).1), (hu (hu G 10 (nf (bX7_passes_12 F G) ((F 19), (G 10), (G 13)) ((F 5).toNatClampNeg)).2.1) 13 (nf (bX7_passes_12 F G) ((F 19), (G 10), (G 13)) ((F 5).toNatClampNeg)).2.2)) j129 = v129 at K129 hv129 ⊢
      obtain ⟨v129_0, v129_1, v129_2⟩ := v129
      try dsimp only at hv129
      show J p l e _ s m args below meth c A 6 _ (OV D Y A ad (v129_1 0) (v129_1 1) (v129_1 5) (v129_1 18) (v129_1 19) (v129_1 20) (v129_2 2) (v129_2 3) (v129_2 4) (v129_2 6) (v129_2 7) (v129_2 8) (v129_2 9) (v129_2 10) (v129_2 11) (v129_2 12) (v129_2 13) (v129_2 14) (v129_2 15) (v129_2 16) (v129_2 17) (v129_2 21) (v129_2 22) (v129_2 23) (v129_2 24) (v129_2 25)) 0 0 129 [(0, .ref (ad 0)), (1, .int (v129_0)), (2, .int (nI j129))] []
      replace K129 : J p l e _ s m args below meth c A 6 _ (OV D Y A ad ((bX7_passes_129 F G j129 (v129_0, v129_1, v129_2)).2.1 0) ((bX7_passes_129 F G j129 (v129_0, v129_1, v129_2)).2.1 1) ((bX7_passes_129 F G j129 (v129_0, v129_1, v129_2)).2.1 5) ((bX7_passes_129 F G j129 (v129_0, v129_1, v129_2)).2.1 18) ((bX7_passes_129 F G j129 (v129_0, v129_1, v129_2)).2.1 19) ((bX7_passes_129 F G j129 (v129_0, v129_1, v129_2)).2.1 20) ((bX7_passes_129 F G j129 (v129_0, v129_1, v129_2)).2.2 2) ((bX7_passes_129 F G j129 (v129_0, v129_1, v129_2)).2.2 3) ((bX7_passes_129 F G j129 (v129_0, v129_1, v129_2)).2.2 4) ((bX7_passes_129 F G j129 (v129_0, v129_1, v129_2)).2.2 6) ((bX7_passes_129 F G j129 (v129_0, v129_1, v129_2)).2.2 7) ((bX7_passes_129 F G j129 (v129_0, v129_1, v129_2)).2.2 8) ((bX7_passes_129 F G j129 (v129_0, v129_1, v129_2)).2.2 9) ((bX7_passes_129 F G j129 (v129_0, v129_1, v129_2)).2.2 10) ((bX7_passes_129 F G j129 (v129_0, v129_1, v129_2)).2.2 11) ((bX7_passes_129 F G j129 (v129_0, v129_1, v129_2)).2.2 12) ((bX7_passes_129 F G j129 (v129_0, v129_1, v129_2)).2.2 13) ((bX7_passes_129 F G j129 (v129_0, v129_1, v129_2)).2.2 14) ((bX7_passes_129 F G j129 (v129_0, v129_1, v129_2)).2.2 15) ((bX7_passes_129 F G j129 (v129_0, v129_1, v129_2)).2.2 16) ((bX7_passes_129 F G j129 (v129_0, v129_1, v129_2)).2.2 17) ((bX7_passes_129 F G j129 (v129_0, v129_1, v129_2)).2.2 21) ((bX7_passes_129 F G j129 (v129_0, v129_1, v129_2)).2.2 22) ((bX7_passes_129 F G j129 (v129_0, v129_1, v129_2)).2.2 23) ((bX7_passes_129 F G j129 (v129_0, v129_1, v129_2)).2.2 24) ((bX7_passes_129 F G j129 (v129_0, v129_1, v129_2)).2.2 25)) 0 0 129 [(0, .ref (ad 0)), (1, .int ((bX7_passes_129 F G j129 (v129_0, v129_1, v129_2)).1)), (2, .int (nI (j129 + 1)))] [] := K129
      have hA129 : RI v129_1 v129_2 := hv129.1; have hC129 : v129_1 5 = F 5 := hv129.2.2; have hc129 : (v129_1 5).toNatClampNeg ≤ 30 := hA129.2.1.cl (by decide)
      refine j_iload_n C0 dX7_passes_129 rfl ?_
      refine j_aload_n C0 dX7_passes_130 rfl ?_
      refine r_gf_5 C0 (v := (v129_1 5)) dX7_passes_131 rfl ?_
      refine j_icmp_ge C0 247 dX7_passes_134 (by decide) (fun z => absurd z (cl_lt (by rw [hC129]) hj129)) (fun _ => ?_)
      refine j_iconst C0 (v := -1) dX7_passes_137 (by decide) ?_
      refine j_istore_n C0 (L' := [(0, .ref (ad 0)), (1, .int (v129_0)), (2, .int (nI j129)), (3, .int ((-1 : Int32)))]) dX7_passes_138 (by decide) rfl ?_
      refine j_iconst C0 (v := 0) dX7_passes_139 (by decide) ?_
      refine j_istore C0 (L' := [(0, .ref (ad 0)), (1, .int (v129_0)), (2, .int (nI j129)), (3, .int ((-1 : Int32))), (4, .int ((0 : Int32)))]) dX7_passes_140 (by decide) rfl ?_
      refine hb_lp (P := fun (j : Nat) (v : Int32) => J p l e _ s m args below meth c A 6 _ (OV D Y A ad (v129_1 0) (v129_1 1) (v129_1 5) (v129_1 18) (v129_1 19) (v129_1 20) (v129_2 2) (v129_2 3) (v129_2 4) (v129_2 6) (v129_2 7) (v129_2 8) (v129_2 9) (v129_2 10) (v129_2 11) (v129_2 12) (v129_2 13) (v129_2 14) (v129_2 15) (v129_2 16) (v129_2 17) (v129_2 21) (v129_2 22) (v129_2 23) (v129_2 24) (v129_2 25)) 0 0 142 [(0, .ref (ad 0)), (1, .int (v129_0)), (2, .int (nI j129)), (3, .int (v)), (4, .int (nI j))] []) (bX7_passes_142 F G j129 v129_0 v129_1 v129_2) ((-1 : Int32)) (((v129_1 5)).toNatClampNeg) ?_ ?_
      ·
        intro j142 hj142 K142
        have hv142 := (fun j (hj : j ≤ 30) => (passes_in F G j129 v129_0 v129_1 v129_2) j hj) j142
        generalize nf (bX7_passes_142 F G j129 v129_0 v129_1 v129_2) ((-1 : Int32)) j142 = v142 at K142 hv142 ⊢
        try dsimp only at hv142
        show J p l e _ s m args below meth c A 6 _ (OV D Y A ad (v129_1 0) (v129_1 1) (v129_1 5) (v129_1 18) (v129_1 19) (v129_1 20) (v129_2 2) (v129_2 3) (v129_2 4) (v129_2 6) (v129_2 7) (v129_2 8) (v129_2 9) (v129_2 10) (v129_2 11) (v129_2 12) (v129_2 13) (v129_2 14) (v129_2 15) (v129_2 16) (v129_2 17) (v129_2 21) (v129_2 22) (v129_2 23) (v129_2 24) (v129_2 25)) 0 0 142 [(0, .ref (ad 0)), (1, .int (v129_0)), (2, .int (nI j129)), (3, .int (v142)), (4, .int (nI j142))] []
        replace K142 : J p l e _ s m args below meth c A 6 _ (OV D Y A ad (v129_1 0) (v129_1 1) (v129_1 5) (v129_1 18) (v129_1 19) (v129_1 20) (v129_2 2) (v129_2 3) (v129_2 4) (v129_2 6) (v129_2 7) (v129_2 8) (v129_2 9) (v129_2 10) (v129_2 11) (v129_2 12) (v129_2 13) (v129_2 14) (v129_2 15) (v129_2 16) (v129_2 17) (v129_2 21) (v129_2 22) (v129_2 23) (v129_2 24) (v129_2 25)) 0 0 142 [(0, .ref (ad 0)), (1, .int (v129_0)), (2, .int (nI j129)), (3, .int ((bX7_passes_142 F G j129 v129_0 v129_1 v129_2 j142 v142))), (4, .int (nI (j142 + 1)))] [] := K142
        refine j_iload C0 dX7_passes_142 rfl ?_
        refine j_aload_n C0 dX7_passes_144 rfl ?_
        refine r_gf_5 C0 (v := (v129_1 5)) dX7_passes_145 rfl ?_
        refine j_icmp_ge C0 225 dX7_passes_148 (by decide) (fun z => absurd z (cl_lt rfl hj142)) (fun _ => ?_)
        refine j_aload_n C0 dX7_passes_151 rfl ?_
        refine r_gf_11 C0 dX7_passes_152 ?_
        refine j_iload C0 dX7_passes_155 rfl ?_
        refine r_ld_11 C0 (v := ((v129_2 11) (nI j142).toNatClampNeg)) (vp_nI (by omega) (by decide)) dX7_passes_157 rfl ?_
        refine j_iconst C0 (v := -1) dX7_passes_158 (by decide) ?_
        refine j_icmp_eq C0 189 dX7_passes_159 (by decide) (fun (q19 : ((v129_2 11) (nI j142).toNatClampNeg) = (-1 : Int32)) => ?_) (fun (q19 : ¬ (((v129_2 11) (nI j142).toNatClampNeg) = (-1 : Int32))) => ?_)
        ·
          refine j_iconst C0 (v := 0) dX7_passes_189 (by decide) ?_
          refine j_istore C0 (L' := [(0, .ref (ad 0)), (1, .int (v129_0)), (2, .int (nI j129)), (3, .int (v142)), (4, .int (nI j142)), (5, .int ((0 : Int32)))]) dX7_passes_190 (by decide) rfl ?_
          refine j_iload C0 dX7_passes_192 rfl ?_
          refine j_if_eq C0 217 dX7_passes_194 (by decide) (fun _ => ?_) (fun z => absurd (by decide) z)
          refine j_iload_n C0 dX7_passes_217 rfl ?_
          refine j_istore_n C0 (L' := [(0, .ref (ad 0)), (1, .int (v129_0)), (2, .int (nI j129)), (3, .int (v142)), (4, .int (nI j142)), (5, .int ((0 : Int32)))]) dX7_passes_218 (by decide) rfl ?_
          refine j_iinc C0 (v := nI (j142 + 1)) (L' := [(0, .ref (ad 0)), (1, .int (v129_0)), (2, .int (nI j129)), (3, .int (v142)), (4, .int (nI (j142 + 1))), (5, .int ((0 : Int32)))]) dX7_passes_219 rfl (nI_inc j142) (by decide) rfl ?_
          refine j_goto C0 142 dX7_passes_222 (by decide) ?_
          rw [bX7_passes_142, if_pos q19] at K142
          refine j_locals (L' := [(0, .ref (ad 0)), (1, .int (v129_0)), (2, .int (nI j129)), (3, .int (v142)), (4, .int (nI (j142 + 1)))]) (fun q hq => by simp only [List.mem_cons, List.mem_nil_iff, or_false] at hq ⊢; rcases hq with rfl | rfl | rfl | rfl | rfl <;> simp) (lok_of rfl rfl) ?_
          exact K142
        ·
          refine j_aload_n C0 dX7_passes_162 rfl ?_
          refine r_gf_11 C0 dX7_passes_163 ?_
          refine j_iload C0 dX7_passes_166 rfl ?_
          refine r_ld_11 C0 (v := ((v129_2 11) (nI j142).toNatClampNeg)) (vp_nI (by omega) (by decide)) dX7_passes_168 rfl ?_
          refine j_aload_n C0 dX7_passes_169 rfl ?_
          refine r_gf_1 C0 (v := (v129_1 1)) dX7_passes_170 rfl ?_
          refine j_icmp_gt C0 189 dX7_passes_173 (by decide) (fun (q21 : (v129_1 1) < ((v129_2 11) (nI j142).toNatClampNeg)) => ?_) (fun (q21 : ¬ ((v129_1 1) < ((v129_2 11) (nI j142).toNatClampNeg))) => ?_)
          ·
            refine j_iconst C0 (v := 0) dX7_passes_189 (by decide) ?_
            refine j_istore C0 (L' := [(0, .ref (ad 0)), (1, .int (v129_0)), (2, .int (nI j129)), (3, .int (v142)), (4, .int (nI j142)), (5, .int ((0 : Int32)))]) dX7_passes_190 (by decide) rfl ?_
            refine j_iload C0 dX7_passes_192 rfl ?_
            refine j_if_eq C0 217 dX7_passes_194 (by decide) (fun _ => ?_) (fun z => absurd (by decide) z)
            refine j_iload_n C0 dX7_passes_217 rfl ?_
            refine j_istore_n C0 (L' := [(0, .ref (ad 0)), (1, .int (v129_0)), (2, .int (nI j129)), (3, .int (v142)), (4, .int (nI j142)), (5, .int ((0 : Int32)))]) dX7_passes_218 (by decide) rfl ?_
            refine j_iinc C0 (v := nI (j142 + 1)) (L' := [(0, .ref (ad 0)), (1, .int (v129_0)), (2, .int (nI j129)), (3, .int (v142)), (4, .int (nI (j142 + 1))), (5, .int ((0 : Int32)))]) dX7_passes_219 rfl (nI_inc j142) (by decide) rfl ?_
            refine j_goto C0 142 dX7_passes_222 (by decide) ?_
            rw [bX7_passes_142, if_neg q19, if_pos q21] at K142
            refine j_locals (L' := [(0, .ref (ad 0)), (1, .int (v129_0)), (2, .int (nI j129)), (3, .int (v142)), (4, .int (nI (j142 + 1)))]) (fun q hq => by simp only [List.mem_cons, List.mem_nil_iff, or_false] at hq ⊢; rcases hq with rfl | rfl | rfl | rfl | rfl <;> simp) (lok_of rfl rfl) ?_
            exact K142
          ·
            refine j_iload_n C0 dX7_passes_176 rfl ?_
            refine j_iload C0 dX7_passes_177 rfl ?_
            refine j_ishr C0 dX7_passes_179 ?_
            refine j_iconst C0 (v := 1) dX7_passes_180 (by decide) ?_
            refine j_iand C0 dX7_passes_181 ?_
            refine j_if_ne C0 189 dX7_passes_182 (by decide) (fun (q23 : ¬ (((v129_0 >>> (nI j142 &&& 31)) &&& (1 : Int32)) = 0)) => ?_) (fun (q23 : ((v129_0 >>> (nI j142 &&& 31)) &&& (1 : Int32)) = 0) => ?_)
            ·
              refine j_iconst C0 (v := 0) dX7_passes_189 (by decide) ?_
              refine j_istore C0 (L' := [(0, .ref (ad 0)), (1, .int (v129_0)), (2, .int (nI j129)), (3, .int (v142)), (4, .int (nI j142)), (5, .int ((0 : Int32)))]) dX7_passes_190 (by decide) rfl ?_
              refine j_iload C0 dX7_passes_192 rfl ?_
              refine j_if_eq C0 217 dX7_passes_194 (by decide) (fun _ => ?_) (fun z => absurd (by decide) z)
              refine j_iload_n C0 dX7_passes_217 rfl ?_
              refine j_istore_n C0 (L' := [(0, .ref (ad 0)), (1, .int (v129_0)), (2, .int (nI j129)), (3, .int (v142)), (4, .int (nI j142)), (5, .int ((0 : Int32)))]) dX7_passes_218 (by decide) rfl ?_
              refine j_iinc C0 (v := nI (j142 + 1)) (L' := [(0, .ref (ad 0)), (1, .int (v129_0)), (2, .int (nI j129)), (3, .int (v142)), (4, .int (nI (j142 + 1))), (5, .int ((0 : Int32)))]) dX7_passes_219 rfl (nI_inc j142) (by decide) rfl ?_
              refine j_goto C0 142 dX7_passes_222 (by decide) ?_
              rw [bX7_passes_142, if_neg q19, if_neg q21, if_neg q23] at K142
              refine j_locals (L' := [(0, .ref (ad 0)), (1, .int (v129_0)), (2, .int (nI j129)), (3, .int (v142)), (4, .int (nI (j142 + 1)))]) (fun q hq => by simp only [List.mem_cons, List.mem_nil_iff, or_false] at hq ⊢; rcases hq with rfl | rfl | rfl | rfl | rfl <;> simp) (lok_of rfl rfl) ?_
              exact K142
            ·
              refine j_iconst C0 (v := 1) dX7_passes_185 (by decide) ?_
              refine j_goto C0 190 dX7_passes_186 (by decide) ?_
              refine j_istore C0 (L' := [(0, .ref (ad 0)), (1, .int (v129_0)), (2, .int (nI j129)), (3, .int (v142)), (4, .int (nI j142)), (5, .int ((1 : Int32)))]) dX7_passes_190 (by decide) rfl ?_
              refine j_iload C0 dX7_passes_192 rfl ?_
              refine j_if_eq C0 217 dX7_passes_194 (by decide) (fun z => absurd z (by decide)) (fun _ => ?_)
              refine j_iload_n C0 dX7_passes_197 rfl ?_
              refine j_iconst C0 (v := -1) dX7_passes_198 (by decide) ?_
              refine j_icmp_eq C0 212 dX7_passes_199 (by decide) (fun (q26 : v142 = (-1 : Int32)) => ?_) (fun (q26 : ¬ (v142 = (-1 : Int32))) => ?_)
              ·
                refine j_iload C0 dX7_passes_212 rfl ?_
                refine j_goto C0 218 dX7_passes_214 (by decide) ?_
                refine j_istore_n C0 (L' := [(0, .ref (ad 0)), (1, .int (v129_0)), (2, .int (nI j129)), (3, .int (nI j142)), (4, .int (nI j142)), (5, .int ((1 : Int32)))]) dX7_passes_218 (by decide) rfl ?_
                refine j_iinc C0 (v := nI (j142 + 1)) (L' := [(0, .ref (ad 0)), (1, .int (v129_0)), (2, .int (nI j129)), (3, .int (nI j142)), (4, .int (nI (j142 + 1))), (5, .int ((1 : Int32)))]) dX7_passes_219 rfl (nI_inc j142) (by decide) rfl ?_
                refine j_goto C0 142 dX7_passes_222 (by decide) ?_
                rw [bX7_passes_142, if_neg q19, if_neg q21, if_pos q23, if_pos q26] at K142
                refine j_locals (L' := [(0, .ref (ad 0)), (1, .int (v129_0)), (2, .int (nI j129)), (3, .int (nI j142)), (4, .int (nI (j142 + 1)))]) (fun q hq => by simp only [List.mem_cons, List.mem_nil_iff, or_false] at hq ⊢; rcases hq with rfl | rfl | rfl | rfl | rfl <;> simp) (lok_of rfl rfl) ?_
                exact K142
              ·
                refine j_aload_n C0 dX7_passes_202 rfl ?_
                refine j_iload C0 dX7_passes_203 rfl ?_
                refine j_iload_n C0 dX7_passes_205 rfl ?_
                refine j_callVv C0 (k_X7_isAhead hl ad v129_1 v129_2 (nI j142) (v142) (vp_nI (by omega) (by decide)) ((hv142 (by omega)).resolve_left q26)) mv_X7_isAhead wm_X7_110 (r_recv C0) rfl rfl ⟨Nat.le_of_ble_eq_true rfl, Nat.le_of_ble_eq_true rfl⟩ (Nat.le_of_ble_eq_true rfl) ⟨Nat.le_refl _, Nat.le_refl _⟩ dX7_passes_206 ?_
                refine j_if_eq C0 217 dX7_passes_209 (by decide) (fun (q27 : (vX7_isAhead v129_1 v129_2 (nI j142) (v142)) = 0) => ?_) (fun (q27 : ¬ ((vX7_isAhead v129_1 v129_2 (nI j142) (v142)) = 0)) => ?_)
                ·
                  refine j_iload_n C0 dX7_passes_217 rfl ?_
                  refine j_istore_n C0 (L' := [(0, .ref (ad 0)), (1, .int (v129_0)), (2, .int (nI j129)), (3, .int (v142)), (4, .int (nI j142)), (5, .int ((1 : Int32)))]) dX7_passes_218 (by decide) rfl ?_
                  refine j_iinc C0 (v := nI (j142 + 1)) (L' := [(0, .ref (ad 0)), (1, .int (v129_0)), (2, .int (nI j129)), (3, .int (v142)), (4, .int (nI (j142 + 1))), (5, .int ((1 : Int32)))]) dX7_passes_219 rfl (nI_inc j142) (by decide) rfl ?_
                  refine j_goto C0 142 dX7_passes_222 (by decide) ?_
                  rw [bX7_passes_142, if_neg q19, if_neg q21, if_pos q23, if_neg q26, if_pos q27] at K142
                  refine j_locals (L' := [(0, .ref (ad 0)), (1, .int (v129_0)), (2, .int (nI j129)), (3, .int (v142)), (4, .int (nI (j142 + 1)))]) (fun q hq => by simp only [List.mem_cons, List.mem_nil_iff, or_false] at hq ⊢; rcases hq with rfl | rfl | rfl | rfl | rfl <;> simp) (lok_of rfl rfl) ?_
                  exact K142
                ·
                  refine j_iload C0 dX7_passes_212 rfl ?_
                  refine j_goto C0 218 dX7_passes_214 (by decide) ?_
                  refine j_istore_n C0 (L' := [(0, .ref (ad 0)), (1, .int (v129_0)), (2, .int (nI j129)), (3, .int (nI j142)), (4, .int (nI j142)), (5, .int ((1 : Int32)))]) dX7_passes_218 (by decide) rfl ?_
                  refine j_iinc C0 (v := nI (j142 + 1)) (L' := [(0, .ref (ad 0)), (1, .int (v129_0)), (2, .int (nI j129)), (3, .int (nI j142)), (4, .int (nI (j142 + 1))), (5, .int ((1 : Int32)))]) dX7_passes_219 rfl (nI_inc j142) (by decide) rfl ?_
                  refine j_goto C0 142 dX7_passes_222 (by decide) ?_
                  rw [bX7_passes_142, if_neg q19, if_neg q21, if_pos q23, if_neg q26, if_neg q27] at K142
                  refine j_locals (L' := [(0, .ref (ad 0)), (1, .int (v129_0)), (2, .int (nI j129)), (3, .int (nI j142)), (4, .int (nI (j142 + 1)))]) (fun q hq => by simp only [List.mem_cons, List.mem_nil_iff, or_false] at hq ⊢; rcases hq with rfl | rfl | rfl | rfl | rfl <;> simp) (lok_of rfl rfl) ?_
                  exact K142
      ·
        show J p l e _ s m args below meth c A 6 _ (OV D Y A ad (v129_1 0) (v129_1 1) (v129_1 5) (v129_1 18) (v129_1 19) (v129_1 20) (v129_2 2) (v129_2 3) (v129_2 4) (v129_2 6) (v129_2 7) (v129_2 8) (v129_2 9) (v129_2 10) (v129_2 11) (v129_2 12) (v129_2 13) (v129_2 14) (v129_2 15) (v129_2 16) (v129_2 17) (v129_2 21) (v129_2 22) (v129_2 23) (v129_2 24) (v129_2 25)) 0 0 142 [(0, .ref (ad 0)), (1, .int (v129_0)), (2, .int (nI j129)), (3, .int ((nf (bX7_passes_142 F G j129 v129_0 v129_1 v129_2) ((-1 : Int32)) (((v129_1 5)).toNatClampNeg)))), (4, .int (nI ((((v129_1 5)).toNatClampNeg))))] []
        have hin := (passes_in F G j129 v129_0 v129_1 v129_2) (((v129_1 5)).toNatClampNeg) hc129
        refine j_iload C0 dX7_passes_142 rfl ?_
        refine j_aload_n C0 dX7_passes_144 rfl ?_
        refine r_gf_5 C0 (v := (v129_1 5)) dX7_passes_145 rfl ?_
        refine j_icmp_ge C0 225 dX7_passes_148 (by decide) (fun _ => ?_) (fun z => absurd (cl_le rfl) z)
        refine j_iload_n C0 dX7_passes_225 rfl ?_
        refine j_iconst C0 (v := -1) dX7_passes_226 (by decide) ?_
        refine j_icmp_eq C0 241 dX7_passes_227 (by decide) (fun (q29 : (nf (bX7_passes_142 F G j129 v129_0 v129_1 v129_2) ((-1 : Int32)) (((v129_1 5)).toNatClampNeg)) = (-1 : Int32)) => ?_) (fun (q29 : ¬ ((nf (bX7_passes_142 F G j129 v129_0 v129_1 v129_2) ((-1 : Int32)) (((v129_1 5)).toNatClampNeg)) = (-1 : Int32))) => ?_)
        ·
          refine j_iinc C0 (v := nI (j129 + 1)) (L' := [(0, .ref (ad 0)), (1, .int (v129_0)), (2, .int (nI (j129 + 1))), (3, .int ((nf (bX7_passes_142 F G j129 v129_0 v129_1 v129_2) ((-1 : Int32)) (((v129_1 5)).toNatClampNeg)))), (4, .int (nI ((((v129_1 5)).toNatClampNeg))))]) dX7_passes_241 rfl (nI_inc j129) (by decide) rfl ?_
          refine j_goto C0 129 dX7_passes_244 (by decide) ?_
          rw [bX7_passes_129, if_pos q29] at K129
          refine j_locals (L' := [(0, .ref (ad 0)), (1, .int (v129_0)), (2, .int (nI (j129 + 1)))]) (fun q hq => by simp only [List.mem_cons, List.mem_nil_iff, or_false] at hq ⊢; rcases hq with rfl | rfl | rfl <;> simp) (lok_of rfl rfl) ?_
          exact K129
        ·
          refine j_iload_n C0 dX7_passes_230 rfl ?_
          refine j_iconst C0 (v := 1) dX7_passes_231 (by decide) ?_
          refine j_iload_n C0 dX7_passes_232 rfl ?_
          refine j_ishl C0 dX7_passes_233 ?_
          refine j_ior C0 dX7_passes_234 ?_
          refine j_istore_n C0 (L' := [(0, .ref (ad 0)), (1, .int ((v129_0 ||| ((1 : Int32) <<< ((nf (bX7_passes_142 F G j129 v129_0 v129_1 v129_2) ((-1 : Int32)) (((v129_1 5)).toNatClampNeg)) &&& 31))))), (2, .int (nI j129)), (3, .int ((nf (bX7_passes_142 F G j129 v129_0 v129_1 v129_2) ((-1 : Int32)) (((v129_1 5)).toNatClampNeg)))), (4, .int (nI ((((v129_1 5)).toNatClampNeg))))]) dX7_passes_235 (by decide) rfl ?_
          refine j_aload_n C0 dX7_passes_236 rfl ?_
          refine j_iload_n C0 dX7_passes_237 rfl ?_
          refine j_callVn C0 (k_X7_looksAt hl ad v129_1 v129_2 ((nf (bX7_passes_142 F G j129 v129_0 v129_1 v129_2) ((-1 : Int32)) (((v129_1 5)).toNatClampNeg))) hA129 (hin.resolve_left q29)) mv_X7_looksAt wm_X7_155 (r_recv C0) rfl rfl ⟨Nat.le_of_ble_eq_true rfl, Nat.le_of_ble_eq_true rfl⟩ (Nat.le_of_ble_eq_true rfl) ⟨Nat.le_refl _, Nat.le_refl _⟩ dX7_passes_238 ?_
          show J p l e _ s m args below meth c A 6 _ (OV D Y A ad ((sX7_looksAt v129_1 v129_2 ((nf (bX7_passes_142 F G j129 v129_0 v129_1 v129_2) ((-1 : Int32)) (((v129_1 5)).toNatClampNeg)))).1 0) ((sX7_looksAt v129_1 v129_2 ((nf (bX7_passes_142 F G j129 v129_0 v129_1 v129_2) ((-1 : Int32)) (((v129_1 5)).toNatClampNeg)))).1 1) ((sX7_looksAt v129_1 v129_2 ((nf (bX7_passes_142 F G j129 v129_0 v129_1 v129_2) ((-1 : Int32)) (((v129_1 5)).toNatClampNeg)))).1 5) ((sX7_looksAt v129_1 v129_2 ((nf (bX7_passes_142 F G j129 v129_0 v129_1 v129_2) ((-1 : Int32)) (((v129_1 5)).toNatClampNeg)))).1 18) ((sX7_looksAt v129_1 v129_2 ((nf (bX7_passes_142 F G j129 v129_0 v129_1 v129_2) ((-1 : Int32)) (((v129_1 5)).toNatClampNeg)))).1 19) ((sX7_looksAt v129_1 v129_2 ((nf (bX7_passes_142 F G j129 v129_0 v129_1 v129_2) ((-1 : Int32)) (((v129_1 5)).toNatClampNeg)))).1 20) ((sX7_looksAt v129_1 v129_2 ((nf (bX7_passes_142 F G j129 v129_0 v129_1 v129_2) ((-1 : Int32)) (((v129_1 5)).toNatClampNeg)))).2 2) ((sX7_looksAt v129_1 v129_2 ((nf (bX7_passes_142 F G j129 v129_0 v129_1 v129_2) ((-1 : Int32)) (((v129_1 5)).toNatClampNeg)))).2 3) ((sX7_looksAt v129_1 v129_2 ((nf (bX7_passes_142 F G j129 v129_0 v129_1 v129_2) ((-1 : Int32)) (((v129_1 5)).toNatClampNeg)))).2 4) ((sX7_looksAt v129_1 v129_2 ((nf (bX7_passes_142 F G j129 v129_0 v129_1 v129_2) ((-1 : Int32)) (((v129_1 5)).toNatClampNeg)))).2 6) ((sX7_looksAt v129_1 v129_2 ((nf (bX7_passes_142 F G j129 v129_0 v129_1 v129_2) ((-1 : Int32)) (((v129_1 5)).toNatClampNeg)))).2 7) ((sX7_looksAt v129_1 v129_2 ((nf (bX7_passes_142 F G j129 v129_0 v129_1 v129_2) ((-1 : Int32)) (((v129_1 5)).toNatClampNeg)))).2 8) ((sX7_looksAt v129_1 v129_2 ((nf (bX7_passes_142 F G j129 v129_0 v129_1 v129_2) ((-1 : Int32)) (((v129_1 5)).toNatClampNeg)))).2 9) ((sX7_looksAt v129_1 v129_2 ((nf (bX7_passes_142 F G j129 v129_0 v129_1 v129_2) ((-1 : Int32)) (((v129_1 5)).toNatClampNeg)))).2 10) ((sX7_looksAt v129_1 v129_2 ((nf (bX7_passes_142 F G j129 v129_0 v129_1 v129_2) ((-1 : Int32)) (((v129_1 5)).toNatClampNeg)))).2 11) ((sX7_looksAt v129_1 v129_2 ((nf (bX7_passes_142 F G j129 v129_0 v129_1 v129_2) ((-1 : Int32)) (((v129_1 5)).toNatClampNeg)))).2 12) ((sX7_looksAt v129_1 v129_2 ((nf (bX7_passes_142 F G j129 v129_0 v129_1 v129_2) ((-1 : Int32)) (((v129_1 5)).toNatClampNeg)))).2 13) ((sX7_looksAt v129_1 v129_2 ((nf (bX7_passes_142 F G j129 v129_0 v129_1 v129_2) ((-1 : Int32)) (((v129_1 5)).toNatClampNeg)))).2 14) ((sX7_looksAt v129_1 v129_2 ((nf (bX7_passes_142 F G j129 v129_0 v129_1 v129_2) ((-1 : Int32)) (((v129_1 5)).toNatClampNeg)))).2 15) ((sX7_looksAt v129_1 v129_2 ((nf (bX7_passes_142 F G j129 v129_0 v129_1 v129_2) ((-1 : Int32)) (((v129_1 5)).toNatClampNeg)))).2 16) ((sX7_looksAt v129_1 v129_2 ((nf (bX7_passes_142 F G j129 v129_0 v129_1 v129_2) ((-1 : Int32)) (((v129_1 5)).toNatClampNeg)))).2 17) ((sX7_looksAt v129_1 v129_2 ((nf (bX7_passes_142 F G j129 v129_0 v129_1 v129_2) ((-1 : Int32)) (((v129_1 5)).toNatClampNeg)))).2 21) ((sX7_looksAt v129_1 v129_2 ((nf (bX7_passes_142 F G j129 v129_0 v129_1 v129_2) ((-1 : Int32)) (((v129_1 5)).toNatClampNeg)))).2 22) ((sX7_looksAt v129_1 v129_2 ((nf (bX7_passes_142 F G j129 v129_0 v129_1 v129_2) ((-1 : Int32)) (((v129_1 5)).toNatClampNeg)))).2 23) ((sX7_looksAt v129_1 v129_2 ((nf (bX7_passes_142 F G j129 v129_0 v129_1 v129_2) ((-1 : Int32)) (((v129_1 5)).toNatClampNeg)))).2 24) ((sX7_looksAt v129_1 v129_2 ((nf (bX7_passes_142 F G j129 v129_0 v129_1 v129_2) ((-1 : Int32)) (((v129_1 5)).toNatClampNeg)))).2 25)) 0 0 241 [(0, .ref (ad 0)), (1, .int ((v129_0 ||| ((1 : Int32) <<< ((nf (bX7_passes_142 F G j129 v129_0 v129_1 v129_2) ((-1 : Int32)) (((v129_1 5)).toNatClampNeg)) &&& 31))))), (2, .int (nI j129)), (3, .int ((nf (bX7_passes_142 F G j129 v129_0 v129_1 v129_2) ((-1 : Int32)) (((v129_1 5)).toNatClampNeg)))), (4, .int (nI ((((v129_1 5)).toNatClampNeg))))] []
          refine j_iinc C0 (v := nI (j129 + 1)) (L' := [(0, .ref (ad 0)), (1, .int ((v129_0 ||| ((1 : Int32) <<< ((nf (bX7_passes_142 F G j129 v129_0 v129_1 v129_2) ((-1 : Int32)) (((v129_1 5)).toNatClampNeg)) &&& 31))))), (2, .int (nI (j129 + 1))), (3, .int ((nf (bX7_passes_142 F G j129 v129_0 v129_1 v129_2) ((-1 : Int32)) (((v129_1 5)).toNatClampNeg)))), (4, .int (nI ((((v129_1 5)).toNatClampNeg))))]) dX7_passes_241 rfl (nI_inc j129) (by decide) rfl ?_
          refine j_goto C0 129 dX7_passes_244 (by decide) ?_
          rw [bX7_passes_129, if_neg q29] at K129
          refine j_locals (L' := [(0, .ref (ad 0)), (1, .int ((v129_0 ||| ((1 : Int32) <<< ((nf (bX7_passes_142 F G j129 v129_0 v129_1 v129_2) ((-1 : Int32)) (((v129_1 5)).toNatClampNeg)) &&& 31))))), (2, .int (nI (j129 + 1)))]) (fun q hq => by simp only [List.mem_cons, List.mem_nil_iff, or_false] at hq ⊢; rcases hq with rfl | rfl | rfl <;> simp) (lok_of rfl rfl) ?_
          exact K129
    ·
      show J p l e _ s m args below meth c A 6 _ (OV D Y A ad ((nf (bX7_passes_129 F G) ((0 : Int32), (hu (hu F 1 ((F 1) + (1 : Int32))) 19 (nf (bX7_passes_12 F G) ((F 19), (G 10), (G 13)) ((F 5).toNatClampNeg)).1), (hu (hu G 10 (nf (bX7_passes_12 F G) ((F 19), (G 10), (G 13)) ((F 5).toNatClampNeg)).2.1) 13 (nf (bX7_passes_12 F G) ((F 19), (G 10), (G 13)) ((F 5).toNatClampNeg)).2.2)) (((F 5)).toNatClampNeg)).2.1 0) ((nf (bX7_passes_129 F G) ((0 : Int32), (hu (hu F 1 ((F 1) + (1 : Int32))) 19 (nf (bX7_passes_12 F G) ((F 19), (G 10), (G 13)) ((F 5).toNatClampNeg)).1), (hu (hu G 10 (nf (bX7_passes_12 F G) ((F 19), (G 10), (G 13)) ((F 5).toNatClampNeg)).2.1) 13 (nf (bX7_passes_12 F G) ((F 19), (G 10), (G 13)) ((F 5).toNatClampNeg)).2.2)) (((F 5)).toNatClampNeg)).2.1 1) ((nf (bX7_passes_129 F G) ((0 : Int32), (hu (hu F 1 ((F 1) + (1 : Int32))) 19 (nf (bX7_passes_12 F G) ((F 19), (G 10), (G 13)) ((F 5).toNatClampNeg)).1), (hu (hu G 10 (nf (bX7_passes_12 F G) ((F 19), (G 10), (G 13)) ((F 5).toNatClampNeg)).2.1) 13 (nf (bX7_passes_12 F G) ((F 19), (G 10), (G 13)) ((F 5).toNatClampNeg)).2.2)) (((F 5)).toNatClampNeg)).2.1 5) ((nf (bX7_passes_129 F G) ((0 : Int32), (hu (hu F 1 ((F 1) + (1 : Int32))) 19 (nf (bX7_passes_12 F G) ((F 19), (G 10), (G 13)) ((F 5).toNatClampNeg)).1), (hu (hu G 10 (nf (bX7_passes_12 F G) ((F 19), (G 10), (G 13)) ((F 5).toNatClampNeg)).2.1) 13 (nf (bX7_passes_12 F G) ((F 19), (G 10), (G 13)) ((F 5).toNatClampNeg)).2.2)) (((F 5)).toNatClampNeg)).2.1 18) ((nf (bX7_passes_129 F G) ((0 : Int32), (hu (hu F 1 ((F 1) + (1 : Int32))) 19 (nf (bX7_passes_12 F G) ((F 19), (G 10), (G 13)) ((F 5).toNatClampNeg)).1), (hu (hu G 10 (nf (bX7_passes_12 F G) ((F 19), (G 10), (G 13)) ((F 5).toNatClampNeg)).2.1) 13 (nf (bX7_passes_12 F G) ((F 19), (G 10), (G 13)) ((F 5).toNatClampNeg)).2.2)) (((F 5)).toNatClampNeg)).2.1 19) ((nf (bX7_passes_129 F G) ((0 : Int32), (hu (hu F 1 ((F 1) + (1 : Int32))) 19 (nf (bX7_passes_12 F G) ((F 19), (G 10), (G 13)) ((F 5).toNatClampNeg)).1), (hu (hu G 10 (nf (bX7_passes_12 F G) ((F 19), (G 10), (G 13)) ((F 5).toNatClampNeg)).2.1) 13 (nf (bX7_passes_12 F G) ((F 19), (G 10), (G 13)) ((F 5).toNatClampNeg)).2.2)) (((F 5)).toNatClampNeg)).2.1 20) ((nf (bX7_passes_129 F G) ((0 : Int32), (hu (hu F 1 ((F 1) + (1 : Int32))) 19 (nf (bX7_passes_12 F G) ((F 19), (G 10), (G 13)) ((F 5).toNatClampNeg)).1), (hu (hu G 10 (nf (bX7_passes_12 F G) ((F 19), (G 10), (G 13)) ((F 5).toNatClampNeg)).2.1) 13 (nf (bX7_passes_12 F G) ((F 19), (G 10), (G 13)) ((F 5).toNatClampNeg)).2.2)) (((F 5)).toNatClampNeg)).2.2 2) ((nf (bX7_passes_129 F G) ((0 : Int32), (hu (hu F 1 ((F 1) + (1 : Int32))) 19 (nf (bX7_passes_12 F G) ((F 19), (G 10), (G 13)) ((F 5).toNatClampNeg)).1), (hu (hu G 10 (nf (bX7_passes_12 F G) ((F 19), (G 10), (G 13)) ((F 5).toNatClampNeg)).2.1) 13 (nf (bX7_passes_12 F G) ((F 19), (G 10), (G 13)) ((F 5).toNatClampNeg)).2.2)) (((F 5)).toNatClampNeg)).2.2 3) ((nf (bX7_passes_129 F G) ((0 : Int32), (hu (hu F 1 ((F 1) + (1 : Int32))) 19 (nf (bX7_passes_12 F G) ((F 19), (G 10), (G 13)) ((F 5).toNatClampNeg)).1), (hu (hu G 10 (nf (bX7_passes_12 F G) ((F 19), (G 10), (G 13)) ((F 5).toNatClampNeg)).2.1) 13 (nf (bX7_passes_12 F G) ((F 19), (G 10), (G 13)) ((F 5).toNatClampNeg)).2.2)) (((F 5)).toNatClampNeg)).2.2 4) ((nf (bX7_passes_129 F G) ((0 : Int32), (hu (hu F 1 ((F 1) + (1 : Int32))) 19 (nf (bX7_passes_12 F G) ((F 19), (G 10), (G 13)) ((F 5).toNatClampNeg)).1), (hu (hu G 10 (nf (bX7_passes_12 F G) ((F 19), (G 10), (G 13)) ((F 5).toNatClampNeg)).2.1) 13 (nf (bX7_passes_12 F G) ((F 19), (G 10), (G 13)) ((F 5).toNatClampNeg)).2.2)) (((F 5)).toNatClampNeg)).2.2 6) ((nf (bX7_passes_129 F G) ((0 : Int32), (hu (hu F 1 ((F 1) + (1 : Int32))) 19 (nf (bX7_passes_12 F G) ((F 19), (G 10), (G 13)) ((F 5).toNatClampNeg)).1), (hu (hu G 10 (nf (bX7_passes_12 F G) ((F 19), (G 10), (G 13)) ((F 5).toNatClampNeg)).2.1) 13 (nf (bX7_passes_12 F G) ((F 19), (G 10), (G 13)) ((F 5).toNatClampNeg)).2.2)) (((F 5)).toNatClampNeg)).2.2 7) ((nf (bX7_passes_129 F G) ((0 : Int32), (hu (hu F 1 ((F 1) + (1 : Int32))) 19 (nf (bX7_passes_12 F G) ((F 19), (G 10), (G 13)) ((F 5).toNatClampNeg)).1), (hu (hu G 10 (nf (bX7_passes_12 F G) ((F 19), (G 10), (G 13)) ((F 5).toNatClampNeg)).2.1) 13 (nf (bX7_passes_12 F G) ((F 19), (G 10), (G 13)) ((F 5).toNatClampNeg)).2.2)) (((F 5)).toNatClampNeg)).2.2 8) ((nf (bX7_passes_129 F G) ((0 : Int32), (hu (hu F 1 ((F 1) + (1 : Int32))) 19 (nf (bX7_passes_12 F G) ((F 19), (G 10), (G 13)) ((F 5).toNatClampNeg)).1), (hu (hu G 10 (nf (bX7_passes_12 F G) ((F 19), (G 10), (G 13)) ((F 5).toNatClampNeg)).2.1) 13 (nf (bX7_passes_12 F G) ((F 19), (G 10), (G 13)) ((F 5).toNatClampNeg)).2.2)) (((F 5)).toNatClampNeg)).2.2 9) ((nf (bX7_passes_129 F G) ((0 : Int32), (hu (hu F 1 ((F 1) + (1 : Int32))) 19 (nf (bX7_passes_12 F G) ((F 19), (G 10), (G 13)) ((F 5).toNatClampNeg)).1), (hu (hu G 10 (nf (bX7_passes_12 F G) ((F 19), (G 10), (G 13)) ((F 5).toNatClampNeg)).2.1) 13 (nf (bX7_passes_12 F G) ((F 19), (G 10), (G 13)) ((F 5).toNatClampNeg)).2.2)) (((F 5)).toNatClampNeg)).2.2 10) ((nf (bX7_passes_129 F G) ((0 : Int32), (hu (hu F 1 ((F 1) + (1 : Int32))) 19 (nf (bX7_passes_12 F G) ((F 19), (G 10), (G 13)) ((F 5).toNatClampNeg)).1), (hu (hu G 10 (nf (bX7_passes_12 F G) ((F 19), (G 10), (G 13)) ((F 5).toNatClampNeg)).2.1) 13 (nf (bX7_passes_12 F G) ((F 19), (G 10), (G 13)) ((F 5).toNatClampNeg)).2.2)) (((F 5)).toNatClampNeg)).2.2 11) ((nf (bX7_passes_129 F G) ((0 : Int32), (hu (hu F 1 ((F 1) + (1 : Int32))) 19 (nf (bX7_passes_12 F G) ((F 19), (G 10), (G 13)) ((F 5).toNatClampNeg)).1), (hu (hu G 10 (nf (bX7_passes_12 F G) ((F 19), (G 10), (G 13)) ((F 5).toNatClampNeg)).2.1) 13 (nf (bX7_passes_12 F G) ((F 19), (G 10), (G 13)) ((F 5).toNatClampNeg)).2.2)) (((F 5)).toNatClampNeg)).2.2 12) ((nf (bX7_passes_129 F G) ((0 : Int32), (hu (hu F 1 ((F 1) + (1 : Int32))) 19 (nf (bX7_passes_12 F G) ((F 19), (G 10), (G 13)) ((F 5).toNatClampNeg)).1), (hu (hu G 10 (nf (bX7_passes_12 F G) ((F 19), (G 10), (G 13)) ((F 5).toNatClampNeg)).2.1) 13 (nf (bX7_passes_12 F G) ((F 19), (G 10), (G 13)) ((F 5).toNatClampNeg)).2.2)) (((F 5)).toNatClampNeg)).2.2 13) ((nf (bX7_passes_129 F G) ((0 : Int32), (hu (hu F 1 ((F 1) + (1 : Int32))) 19 (nf (bX7_passes_12 F G) ((F 19), (G 10), (G 13)) ((F 5).toNatClampNeg)).1), (hu (hu G 10 (nf (bX7_passes_12 F G) ((F 19), (G 10), (G 13)) ((F 5).toNatClampNeg)).2.1) 13 (nf (bX7_passes_12 F G) ((F 19), (G 10), (G 13)) ((F 5).toNatClampNeg)).2.2)) (((F 5)).toNatClampNeg)).2.2 14) ((nf (bX7_passes_129 F G) ((0 : Int32), (hu (hu F 1 ((F 1) + (1 : Int32))) 19 (nf (bX7_passes_12 F G) ((F 19), (G 10), (G 13)) ((F 5).toNatClampNeg)).1), (hu (hu G 10 (nf (bX7_passes_12 F G) ((F 19), (G 10), (G 13)) ((F 5).toNatClampNeg)).2.1) 13 (nf (bX7_passes_12 F G) ((F 19), (G 10), (G 13)) ((F 5).toNatClampNeg)).2.2)) (((F 5)).toNatClampNeg)).2.2 15) ((nf (bX7_passes_129 F G) ((0 : Int32), (hu (hu F 1 ((F 1) + (1 : Int32))) 19 (nf (bX7_passes_12 F G) ((F 19), (G 10), (G 13)) ((F 5).toNatClampNeg)).1), (hu (hu G 10 (nf (bX7_passes_12 F G) ((F 19), (G 10), (G 13)) ((F 5).toNatClampNeg)).2.1) 13 (nf (bX7_passes_12 F G) ((F 19), (G 10), (G 13)) ((F 5).toNatClampNeg)).2.2)) (((F 5)).toNatClampNeg)).2.2 16) ((nf (bX7_passes_129 F G) ((0 : Int32), (hu (hu F 1 ((F 1) + (1 : Int32))) 19 (nf (bX7_passes_12 F G) ((F 19), (G 10), (G 13)) ((F 5).toNatClampNeg)).1), (hu (hu G 10 (nf (bX7_passes_12 F G) ((F 19), (G 10), (G 13)) ((F 5).toNatClampNeg)).2.1) 13 (nf (bX7_passes_12 F G) ((F 19), (G 10), (G 13)) ((F 5).toNatClampNeg)).2.2)) (((F 5)).toNatClampNeg)).2.2 17) ((nf (bX7_passes_129 F G) ((0 : Int32), (hu (hu F 1 ((F 1) + (1 : Int32))) 19 (nf (bX7_passes_12 F G) ((F 19), (G 10), (G 13)) ((F 5).toNatClampNeg)).1), (hu (hu G 10 (nf (bX7_passes_12 F G) ((F 19), (G 10), (G 13)) ((F 5).toNatClampNeg)).2.1) 13 (nf (bX7_passes_12 F G) ((F 19), (G 10), (G 13)) ((F 5).toNatClampNeg)).2.2)) (((F 5)).toNatClampNeg)).2.2 21) ((nf (bX7_passes_129 F G) ((0 : Int32), (hu (hu F 1 ((F 1) + (1 : Int32))) 19 (nf (bX7_passes_12 F G) ((F 19), (G 10), (G 13)) ((F 5).toNatClampNeg)).1), (hu (hu G 10 (nf (bX7_passes_12 F G) ((F 19), (G 10), (G 13)) ((F 5).toNatClampNeg)).2.1) 13 (nf (bX7_passes_12 F G) ((F 19), (G 10), (G 13)) ((F 5).toNatClampNeg)).2.2)) (((F 5)).toNatClampNeg)).2.2 22) ((nf (bX7_passes_129 F G) ((0 : Int32), (hu (hu F 1 ((F 1) + (1 : Int32))) 19 (nf (bX7_passes_12 F G) ((F 19), (G 10), (G 13)) ((F 5).toNatClampNeg)).1), (hu (hu G 10 (nf (bX7_passes_12 F G) ((F 19), (G 10), (G 13)) ((F 5).toNatClampNeg)).2.1) 13 (nf (bX7_passes_12 F G) ((F 19), (G 10), (G 13)) ((F 5).toNatClampNeg)).2.2)) (((F 5)).toNatClampNeg)).2.2 23) ((nf (bX7_passes_129 F G) ((0 : Int32), (hu (hu F 1 ((F 1) + (1 : Int32))) 19 (nf (bX7_passes_12 F G) ((F 19), (G 10), (G 13)) ((F 5).toNatClampNeg)).1), (hu (hu G 10 (nf (bX7_passes_12 F G) ((F 19), (G 10), (G 13)) ((F 5).toNatClampNeg)).2.1) 13 (nf (bX7_passes_12 F G) ((F 19), (G 10), (G 13)) ((F 5).toNatClampNeg)).2.2)) (((F 5)).toNatClampNeg)).2.2 24) ((nf (bX7_passes_129 F G) ((0 : Int32), (hu (hu F 1 ((F 1) + (1 : Int32))) 19 (nf (bX7_passes_12 F G) ((F 19), (G 10), (G 13)) ((F 5).toNatClampNeg)).1), (hu (hu G 10 (nf (bX7_passes_12 F G) ((F 19), (G 10), (G 13)) ((F 5).toNatClampNeg)).2.1) 13 (nf (bX7_passes_12 F G) ((F 19), (G 10), (G 13)) ((F 5).toNatClampNeg)).2.2)) (((F 5)).toNatClampNeg)).2.2 25)) 0 0 129 [(0, .ref (ad 0)), (1, .int ((nf (bX7_passes_129 F G) ((0 : Int32), (hu (hu F 1 ((F 1) + (1 : Int32))) 19 (nf (bX7_passes_12 F G) ((F 19), (G 10), (G 13)) ((F 5).toNatClampNeg)).1), (hu (hu G 10 (nf (bX7_passes_12 F G) ((F 19), (G 10), (G 13)) ((F 5).toNatClampNeg)).2.1) 13 (nf (bX7_passes_12 F G) ((F 19), (G 10), (G 13)) ((F 5).toNatClampNeg)).2.2)) (((F 5)).toNatClampNeg)).1)), (2, .int (nI ((((F 5)).toNatClampNeg))))] []
      have hvN := passes_inv F G ((0 : Int32), (hu (hu F 1 ((F 1) + (1 : Int32))) 19 (nf (bX7_passes_12 F G) ((F 19), (G 10), (G 13)) ((F 5).toNatClampNeg)).1), (hu (hu G 10 (nf (bX7_passes_12 F G) ((F 19), (G 10), (G 13)) ((F 5).toNatClampNeg)).2.1) 13 (nf (bX7_passes_12 F G) ((F 19), (G 10), (G 13)) ((F 5).toNatClampNeg)).2.2)) ⟨⟨hn1, hs, hm, hb, hw, hr⟩, rfl, rfl⟩ (((F 5)).toNatClampNeg)
      refine j_iload_n C0 dX7_passes_129 rfl ?_
      refine j_aload_n C0 dX7_passes_130 rfl ?_
      refine r_gf_5 C0 (v := ((nf (bX7_passes_129 F G) ((0 : Int32), (hu (hu F 1 ((F 1) + (1 : Int32))) 19 (nf (bX7_passes_12 F G) ((F 19), (G 10), (G 13)) ((F 5).toNatClampNeg)).1), (hu (hu G 10 (nf (bX7_passes_12 F G) ((F 19), (G 10), (G 13)) ((F 5).toNatClampNeg)).2.1) 13 (nf (bX7_passes_12 F G) ((F 19), (G 10), (G 13)) ((F 5).toNatClampNeg)).2.2)) (((F 5)).toNatClampNeg)).2.1 5)) dX7_passes_131 rfl ?_
      refine j_icmp_ge C0 247 dX7_passes_134 (by decide) (fun _ => ?_) (fun z => absurd (cl_le (by rw [hvN.2.2])) z)
      exact j_vret C0 rfl dX7_passes_247 (fun H h => by rw [sX7_passes]; exact h)
theorem passes_RI {F : Nat → Int32} {G : Nat → Nat → Int32} (hI : RI F G) (hn1 : ct (F 1 + (1 : Int32)) 3000) : RI (sX7_passes F G).1 (sX7_passes F G).2 ∧ (sX7_passes F G).1 1 = F 1 + (1 : Int32) ∧ (sX7_passes F G).1 5 = F 5 := by
  obtain ⟨hn, hs, hm, hb, hw, hr⟩ := id hI
  unfold sX7_passes
  refine passes_inv F G _ ?_ _
  exact ⟨⟨hn1, hs, hm, hb, hw, hr⟩, rfl, rfl⟩
