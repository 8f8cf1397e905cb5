section
theorem z_orders {t : Nat} {F : Nat → Int32} {G : Nat → Nat → Int32} {N : Nat → Nat} {Q : Nat → Nat → Nat} {f : Nat → Int32} {g : Nat → Nat → Int32} {fI : Nat → Int32} {gI : Nat → Nat → Int32} (h : zR t F G N Q fI gI) (hS : zSA F G N Q) (hq : zQ (N 0) (N 2) (G 8) (G 12) (Q 0)) :
    zR t (zvF F (nf (bX6_lookAtOrders_10 F G N Q) (0, F 1, F 2, G 3, G 4, G 10, G 11, G 12, G 13, G 14, G 15, G 16, G 17, G 18, G 19, N 1, N 2, Q 0, Q 1) (N 2))) (zvG G (nf (bX6_lookAtOrders_10 F G N Q) (0, F 1, F 2, G 3, G 4, G 10, G 11, G 12, G 13, G 14, G 15, G 16, G 17, G 18, G 19, N 1, N 2, Q 0, Q 1) (N 2))) (zvN N (nf (bX6_lookAtOrders_10 F G N Q) (0, F 1, F 2, G 3, G 4, G 10, G 11, G 12, G 13, G 14, G 15, G 16, G 17, G 18, G 19, N 1, N 2, Q 0, Q 1) (N 2))) (zvQ Q (nf (bX6_lookAtOrders_10 F G N Q) (0, F 1, F 2, G 3, G 4, G 10, G 11, G 12, G 13, G 14, G 15, G 16, G 17, G 18, G 19, N 1, N 2, Q 0, Q 1) (N 2))) (nf (bX7_passes_129 f g) ((0 : Int32), fI, gI) (N 0)).2.1 (nf (bX7_passes_129 f g) ((0 : Int32), fI, gI) (N 0)).2.2 ∧ zSA (zvF F (nf (bX6_lookAtOrders_10 F G N Q) (0, F 1, F 2, G 3, G 4, G 10, G 11, G 12, G 13, G 14, G 15, G 16, G 17, G 18, G 19, N 1, N 2, Q 0, Q 1) (N 2))) (zvG G (nf (bX6_lookAtOrders_10 F G N Q) (0, F 1, F 2, G 3, G 4, G 10, G 11, G 12, G 13, G 14, G 15, G 16, G 17, G 18, G 19, N 1, N 2, Q 0, Q 1) (N 2))) (zvN N (nf (bX6_lookAtOrders_10 F G N Q) (0, F 1, F 2, G 3, G 4, G 10, G 11, G 12, G 13, G 14, G 15, G 16, G 17, G 18, G 19, N 1, N 2, Q 0, Q 1) (N 2))) (zvQ Q (nf (bX6_lookAtOrders_10 F G N Q) (0, F 1, F 2, G 3, G 4, G 10, G 11, G 12, G 13, G 14, G 15, G 16, G 17, G 18, G 19, N 1, N 2, Q 0, Q 1) (N 2))) ∧ zQ (N 0) ((nf (bX6_lookAtOrders_10 F G N Q) (0, F 1, F 2, G 3, G 4, G 10, G 11, G 12, G 13, G 14, G 15, G 16, G 17, G 18, G 19, N 1, N 2, Q 0, Q 1) (N 2)).2.2.2.2.2.2.2.2.2.2.2.2.2.2.2.2.1) (G 8) ((nf (bX6_lookAtOrders_10 F G N Q) (0, F 1, F 2, G 3, G 4, G 10, G 11, G 12, G 13, G 14, G 15, G 16, G 17, G 18, G 19, N 1, N 2, Q 0, Q 1) (N 2)).2.2.2.2.2.2.2.1) ((nf (bX6_lookAtOrders_10 F G N Q) (0, F 1, F 2, G 3, G 4, G 10, G 11, G 12, G 13, G 14, G 15, G 16, G 17, G 18, G 19, N 1, N 2, Q 0, Q 1) (N 2)).2.2.2.2.2.2.2.2.2.2.2.2.2.2.2.2.2.1) := by
  have z0 : ∀ s, Nat.testBit 0 s = false := fun s => Nat.zero_testBit s
  have key := z_nfI (f := bX6_lookAtOrders_10 F G N Q) (a := (0, F 1, F 2, G 3, G 4, G 10, G 11, G 12, G 13, G 14, G 15, G 16, G 17, G 18, G 19, N 1, N 2, Q 0, Q 1)) (zLI t F G N Q f g fI gI (N 2)) (N 2) ⟨0, 0, fI, gI, Nat.le_refl _, rfl, by decide, h, z_sdr2 (i := 0) h hS rfl rfl rfl rfl rfl rfl rfl rfl rfl rfl rfl, hq, by show N 2 = 0 + (N 2 - 0); omega, fun k hk => absurd hk (Nat.not_lt_zero _), fun k _ _ => z0 _⟩ (fun j hj v hv => z_step hj v hv)
  generalize (nf (bX6_lookAtOrders_10 F G N Q) (0, F 1, F 2, G 3, G 4, G 10, G 11, G 12, G 13, G 14, G 15, G 16, G 17, G 18, G 19, N 1, N 2, Q 0, Q 1) (N 2)) = v at key ⊢
  obtain ⟨T, w, f', g', hT, hnf, hw, hR, hS2, hQ, hn, hlo, hhi⟩ := key
  have hle := zQ_le hq
  have hR2 := hR
  obtain ⟨⟨ht, eF, f1, f18, f19, f5, f20⟩, hW, hP, hK, hE, hSt, hZ, hM, hO⟩ := hR2
  have k0 : N 0 ≤ 30 := hK.1
  have f5' : f' 5 = nI (N 0) := f5
  have ord : ∀ s, s < N 0 → g' 11 s = -1 ∨ ∃ h, h ≤ 3000 ∧ g' 11 s = nI h := fun s hs => by
    have e := hE.2.1 s hs
    rcases (hSt s hs).2.2 with z | ⟨_, h, z1, z2⟩
    · exact Or.inl (e.symm.trans z)
    · exact Or.inr ⟨h, z1, e.symm.trans z2⟩
  have none_ : ∀ s, s < N 0 → ¬ zDu g' t w s := by
    rintro s hs ⟨h, hh, eh, hb⟩
    have e12 : v.2.2.2.2.2.2.2.1 s = nI h := (hE.2.1 s hs).trans eh
    obtain ⟨k, hk, ek⟩ := hQ.2.1 s hs (by rw [e12]; exact z_m1 (by omega))
    rcases hlo k (by omega) with ⟨y, y1, y2, y3⟩ | y
    · rw [ek, e12] at y3
      have := (nI_eq (by omega) (by omega)).mp y3
      omega
    · rw [ek, hb] at y; exact absurd y (by decide)
  have stay : ∀ j, bX7_passes_129 f g j (nI w, f', g') = (nI w, f', g') := fun j => by
    rw [bX7_passes_129, f5', nI_clamp (show N 0 < 2 ^ 31 by omega), z_sel0 (f0 := f) (g0 := g) (f := f') (g := g') (j := j) (t := t) (w := w) (n := N 0) (by omega) hw k0 f1 ord none_, if_pos rfl]
  have fin := z_stay hnf stay (N 0 - T)
  rw [show T + (N 0 - T) = N 0 by omega] at fin
  rw [fin]
  exact ⟨hR, hS2, hQ⟩
def zHI (t : Nat) (F : Nat → Int32) (G : Nat → Nat → Int32) (N : Nat → Nat) (Q : Nat → Nat → Nat) (k : Nat) (v : Int32 × Int32 × Int32 × (Nat → Int32) × (Nat → Int32) × (Nat → Int32) × (Nat → Int32) × (Nat → Int32) × (Nat → Int32) × (Nat → Int32) × (Nat → Int32) × (Nat → Int32) × (Nat → Int32) × (Nat → Int32) × (Nat → Int32) × Nat × Nat × (Nat → Nat) × (Nat → Nat)) (u : (Nat → Int32) × (Nat → Nat → Int32)) : Prop :=
  zR (t + k) (hu (hu (hu F 0 v.1) 1 v.2.1) 2 v.2.2.1) (hu (hu (hu (hu (hu (hu (hu (hu (hu (hu (hu (hu G 3 v.2.2.2.1) 4 v.2.2.2.2.1) 10 v.2.2.2.2.2.1) 11 v.2.2.2.2.2.2.1) 12 v.2.2.2.2.2.2.2.1) 13 v.2.2.2.2.2.2.2.2.1) 14 v.2.2.2.2.2.2.2.2.2.1) 15 v.2.2.2.2.2.2.2.2.2.2.1) 16 v.2.2.2.2.2.2.2.2.2.2.2.1) 17 v.2.2.2.2.2.2.2.2.2.2.2.2.1) 18 v.2.2.2.2.2.2.2.2.2.2.2.2.2.1) 19 v.2.2.2.2.2.2.2.2.2.2.2.2.2.2.1) (hu (hu N 1 v.2.2.2.2.2.2.2.2.2.2.2.2.2.2.2.1) 2 v.2.2.2.2.2.2.2.2.2.2.2.2.2.2.2.2.1) (hu (hu Q 0 v.2.2.2.2.2.2.2.2.2.2.2.2.2.2.2.2.2.1) 1 v.2.2.2.2.2.2.2.2.2.2.2.2.2.2.2.2.2.2) u.1 u.2 ∧ zSA (hu (hu (hu F 0 v.1) 1 v.2.1) 2 v.2.2.1) (hu (hu (hu (hu (hu (hu (hu (hu (hu (hu (hu (hu G 3 v.2.2.2.1) 4 v.2.2.2.2.1) 10 v.2.2.2.2.2.1) 11 v.2.2.2.2.2.2.1) 12 v.2.2.2.2.2.2.2.1) 13 v.2.2.2.2.2.2.2.2.1) 14 v.2.2.2.2.2.2.2.2.2.1) 15 v.2.2.2.2.2.2.2.2.2.2.1) 16 v.2.2.2.2.2.2.2.2.2.2.2.1) 17 v.2.2.2.2.2.2.2.2.2.2.2.2.1) 18 v.2.2.2.2.2.2.2.2.2.2.2.2.2.1) 19 v.2.2.2.2.2.2.2.2.2.2.2.2.2.2.1) (hu (hu N 1 v.2.2.2.2.2.2.2.2.2.2.2.2.2.2.2.1) 2 v.2.2.2.2.2.2.2.2.2.2.2.2.2.2.2.2.1) (hu (hu Q 0 v.2.2.2.2.2.2.2.2.2.2.2.2.2.2.2.2.2.1) 1 v.2.2.2.2.2.2.2.2.2.2.2.2.2.2.2.2.2.2) ∧ zQ (N 0) (v.2.2.2.2.2.2.2.2.2.2.2.2.2.2.2.2.1) (G 8) (v.2.2.2.2.2.2.2.1) (v.2.2.2.2.2.2.2.2.2.2.2.2.2.2.2.2.2.1)
theorem z_hour {t k j : Nat} {a1 a7 : Int32} {F : Nat → Int32} {G : Nat → Nat → Int32} {N : Nat → Nat} {Q : Nat → Nat → Nat} {f0 : Nat → Int32} {g0 : Nat → Nat → Int32} (hk : t + k + 1 ≤ 3000) (v : Int32 × Int32 × Int32 × (Nat → Int32) × (Nat → Int32) × (Nat → Int32) × (Nat → Int32) × (Nat → Int32) × (Nat → Int32) × (Nat → Int32) × (Nat → Int32) × (Nat → Int32) × (Nat → Int32) × (Nat → Int32) × (Nat → Int32) × Nat × Nat × (Nat → Nat) × (Nat → Nat)) (u : (Nat → Int32) × (Nat → Nat → Int32)) (h : zHI t F G N Q k v u) : zHI t F G N Q (k + 1) (bX6_pass_39 F G N Q a1 k v) (bX7_pass_47 f0 g0 a7 k u) := by
  obtain ⟨w0, w1, w2, w3, w4, w5, w6, w7, w8, w9, w10, w11, w12, w13, w14, w15, w16, w17, w18⟩ := v
  obtain ⟨f, g⟩ := u
  obtain ⟨hR, hS, hQ⟩ := h
  have hR' : zR (t + k) (hu (hu (hu F 0 w0) 1 w1) 2 w2) (hu (hu (hu (hu (hu (hu (hu (hu (hu (hu (hu (hu G 3 w3) 4 w4) 10 w5) 11 w6) 12 w7) 13 w8) 14 w9) 15 w10) 16 w11) 17 w12) 18 w13) 19 w14) (hu (hu N 1 w15) 2 w16) (hu (hu Q 0 w17) 1 w18) f g := hR
  have hS' : zSA (hu (hu (hu F 0 w0) 1 w1) 2 w2) (hu (hu (hu (hu (hu (hu (hu (hu (hu (hu (hu (hu G 3 w3) 4 w4) 10 w5) 11 w6) 12 w7) 13 w8) 14 w9) 15 w10) 16 w11) 17 w12) 18 w13) 19 w14) (hu (hu N 1 w15) 2 w16) (hu (hu Q 0 w17) 1 w18) := hS
  have hQ' : zQ (N 0) w16 (G 8) w7 w17 := hQ
  have f5 : (f 5).toNatClampNeg = N 0 := by
    have e : f 5 = nI (N 0) := hR'.1.2.2.2.2.2.1
    have k0 : N 0 ≤ 30 := hR'.2.2.2.1.1
    rw [e, nI_clamp (by omega)]
  rw [bX6_pass_39, bX7_pass_47, sX7_passes]
  generalize hE : (sX6_endMoves (hu (hu (hu F 0 (w0 + (1 : Int32))) 1 w1) 2 w2) (hu (hu (hu (hu (hu (hu (hu (hu (hu (hu (hu (hu G 3 w3) 4 w4) 10 w5) 11 w6) 12 w7) 13 w8) 14 w9) 15 w10) 16 w11) 17 w12) 18 w13) 19 w14) (hu (hu N 1 w15) 2 w16) (hu (hu Q 0 w17) 1 w18)) = E
  generalize hD : (sX6_takeBerthDues (hu (hu (hu F 0 (w0 + (1 : Int32))) 1 w1) 2 w2) (hu (hu (hu (hu (hu (hu (hu (hu (hu (hu (hu (hu G 3 w3) 4 w4) 10 E) 11 w6) 12 w7) 13 w8) 14 w9) 15 w10) 16 w11) 17 w12) 18 w13) 19 w14) (hu (hu N 1 w15) 2 w16) (hu (hu Q 0 w17) 1 w18)) = D
  obtain ⟨p1, p2⟩ := z_pre (F1 := (hu (hu (hu F 0 (w0 + (1 : Int32))) 1 w1) 2 w2)) (F2 := (hu (hu (hu F 0 (w0 + (1 : Int32))) 1 w1) 2 D.1)) (G1 := (hu (hu (hu (hu (hu (hu (hu (hu (hu (hu (hu (hu G 3 w3) 4 w4) 10 E) 11 w6) 12 w7) 13 w8) 14 w9) 15 w10) 16 w11) 17 w12) 18 w13) 19 w14)) (G2 := (hu (hu (hu (hu (hu (hu (hu (hu (hu (hu (hu (hu G 3 w3) 4 w4) 10 E) 11 w6) 12 w7) 13 D.2) 14 w9) 15 w10) 16 w11) 17 w12) 18 w13) 19 w14)) hR' hS' hk rfl rfl rfl hE.symm rfl rfl rfl (congrArg Prod.fst hD).symm (congrArg Prod.snd hD).symm hE.symm rfl rfl rfl rfl rfl rfl rfl rfl rfl rfl rfl rfl rfl rfl rfl rfl rfl rfl
  obtain ⟨q1, q2, q3⟩ := z_orders (f := f) (g := g) p1 p2 hQ'
  rw [sX6_lookAtOrders]
  generalize (nf (bX6_lookAtOrders_10 (hu (hu (hu F 0 (w0 + (1 : Int32))) 1 w1) 2 D.1) (hu (hu (hu (hu (hu (hu (hu (hu (hu (hu (hu (hu G 3 w3) 4 w4) 10 E) 11 w6) 12 w7) 13 D.2) 14 w9) 15 w10) 16 w11) 17 w12) 18 w13) 19 w14) (hu (hu N 1 w15) 2 w16) (hu (hu Q 0 w17) 1 w18)) (0, (hu (hu (hu F 0 (w0 + (1 : Int32))) 1 w1) 2 D.1) 1, (hu (hu (hu F 0 (w0 + (1 : Int32))) 1 w1) 2 D.1) 2, (hu (hu (hu (hu (hu (hu (hu (hu (hu (hu (hu (hu G 3 w3) 4 w4) 10 E) 11 w6) 12 w7) 13 D.2) 14 w9) 15 w10) 16 w11) 17 w12) 18 w13) 19 w14) 3, (hu (hu (hu (hu (hu (hu (hu (hu (hu (hu (hu (hu G 3 w3) 4 w4) 10 E) 11 w6) 12 w7) 13 D.2) 14 w9) 15 w10) 16 w11) 17 w12) 18 w13) 19 w14) 4, (hu (hu (hu (hu (hu (hu (hu (hu (hu (hu (hu (hu G 3 w3) 4 w4) 10 E) 11 w6) 12 w7) 13 D.2) 14 w9) 15 w10) 16 w11) 17 w12) 18 w13) 19 w14) 10, (hu (hu (hu (hu (hu (hu (hu (hu (hu (hu (hu (hu G 3 w3) 4 w4) 10 E) 11 w6) 12 w7) 13 D.2) 14 w9) 15 w10) 16 w11) 17 w12) 18 w13) 19 w14) 11, (hu (hu (hu (hu (hu (hu (hu (hu (hu (hu (hu (hu G 3 w3) 4 w4) 10 E) 11 w6) 12 w7) 13 D.2) 14 w9) 15 w10) 16 w11) 17 w12) 18 w13) 19 w14) 12, (hu (hu (hu (hu (hu (hu (hu (hu (hu (hu (hu (hu G 3 w3) 4 w4) 10 E) 11 w6) 12 w7) 13 D.2) 14 w9) 15 w10) 16 w11) 17 w12) 18 w13) 19 w14) 13, (hu (hu (hu (hu (hu (hu (hu (hu (hu (hu (hu (hu G 3 w3) 4 w4) 10 E) 11 w6) 12 w7) 13 D.2) 14 w9) 15 w10) 16 w11) 17 w12) 18 w13) 19 w14) 14, (hu (hu (hu (hu (hu (hu (hu (hu (hu (hu (hu (hu G 3 w3) 4 w4) 10 E) 11 w6) 12 w7) 13 D.2) 14 w9) 15 w10) 16 w11) 17 w12) 18 w13) 19 w14) 15, (hu (hu (hu (hu (hu (hu (hu (hu (hu (hu (hu (hu G 3 w3) 4 w4) 10 E) 11 w6) 12 w7) 13 D.2) 14 w9) 15 w10) 16 w11) 17 w12) 18 w13) 19 w14) 16, (hu (hu (hu (hu (hu (hu (hu (hu (hu (hu (hu (hu G 3 w3) 4 w4) 10 E) 11 w6) 12 w7) 13 D.2) 14 w9) 15 w10) 16 w11) 17 w12) 18 w13) 19 w14) 17, (hu (hu (hu (hu (hu (hu (hu (hu (hu (hu (hu (hu G 3 w3) 4 w4) 10 E) 11 w6) 12 w7) 13 D.2) 14 w9) 15 w10) 16 w11) 17 w12) 18 w13) 19 w14) 18, (hu (hu (hu (hu (hu (hu (hu (hu (hu (hu (hu (hu G 3 w3) 4 w4) 10 E) 11 w6) 12 w7) 13 D.2) 14 w9) 15 w10) 16 w11) 17 w12) 18 w13) 19 w14) 19, (hu (hu N 1 w15) 2 w16) 1, (hu (hu N 1 w15) 2 w16) 2, (hu (hu Q 0 w17) 1 w18) 0, (hu (hu Q 0 w17) 1 w18) 1) ((hu (hu N 1 w15) 2 w16) 2)) = L at q1 q2 q3 ⊢
  dsimp only
  rw [f5]
  rw [f5] at q1
  exact ⟨q1, z_sdr2 (i := 0) q1 q2 rfl rfl rfl rfl rfl rfl rfl rfl rfl rfl rfl, q3⟩
end
