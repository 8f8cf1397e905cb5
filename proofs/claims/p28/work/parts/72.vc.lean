section
theorem z_frp {F : Nat → Int32} {G : Nat → Nat → Int32} {N : Nat → Nat} {Q : Nat → Nat → Nat} : vX6_firstReadyPilot F G N Q = -1 ∨ ∃ p, p < 6 ∧ vX6_firstReadyPilot F G N Q = G 3 p := by
  rw [vX6_firstReadyPilot]
  have key := z_bkI (f := bX6_firstReadyPilot_2 F G N Q) (a := ()) (fun _ _ => True) (fun r => ∃ p, p < 6 ∧ r = G 3 p) 6 trivial (fun j hj v _ => by
    rw [bX6_firstReadyPilot_2]
    split
    · trivial
    · exact ⟨j, hj, by rw [nI_clamp (by omega)]⟩)
  exact z_bkE (T := fun r => r = -1 ∨ ∃ p, p < 6 ∧ r = G 3 p) key (fun _ _ => Or.inl rfl) (fun r h => Or.inr h)
theorem z_frpI {F : Nat → Int32} {G : Nat → Nat → Int32} {N : Nat → Nat} {Q : Nat → Nat → Nat} (hr : zPm (G 3)) (h : ¬ vX6_firstReadyPilot F G N Q = -1) : (vX6_firstReadyPilot F G N Q).toNatClampNeg < 6 := by
  rcases z_frp (F := F) (G := G) (N := N) (Q := Q) with q | ⟨p, hp, e⟩
  · exact absurd q h
  · rw [e]; exact vp_cl (hr.1 p hp)
def zL9 (t : Nat) (F : Nat → Int32) (G : Nat → Nat → Int32) (N : Nat → Nat) (Q : Nat → Nat → Nat) (f0 : Nat → Int32) (g0 : Nat → Nat → Int32) (fI : Nat → Int32) (gI : Nat → Nat → Int32) (n j : Nat) (v : Nat × Int32 × Int32 × (Nat → Int32) × (Nat → Int32) × (Nat → Int32) × (Nat → Int32) × (Nat → Int32) × (Nat → Int32) × (Nat → Int32) × (Nat → Int32) × (Nat → Int32) × (Nat → Int32) × (Nat → Int32) × (Nat → Int32) × Nat × Nat × (Nat → Nat) × (Nat → Nat)) : Prop :=
  zLI t F G N Q f0 g0 fI gI n j v ∧ zM9 t (N 0) (N 1) (G 9) (G 10) (G 12) (G 14) (G 15) (v.2.1) (v.2.2.1) (v.2.2.2.2.1) (v.2.2.2.2.2.1) (v.2.2.2.2.2.2.2.1) (v.2.2.2.2.2.2.2.2.1) (v.2.2.2.2.2.2.2.2.2.1) (v.2.2.2.2.2.2.2.2.2.2.1) (v.2.2.2.2.2.2.2.2.2.2.2.1) (v.2.2.2.2.2.2.2.2.2.2.2.2.1) (v.2.2.2.2.2.2.2.2.2.2.2.2.2.2.2.1) (v.2.2.2.2.2.2.2.2.2.2.2.2.2.2.2.2.2.2) ∧ ∀ k, k < v.1 → ∃ x, v.2.2.2.2.2.2.2.1 (v.2.2.2.2.2.2.2.2.2.2.2.2.2.2.2.2.2.1 k) = nI x ∧ x ≤ 3000 ∧ t < x + 3
set_option maxHeartbeats 4000000 in
theorem z_kind9 {t i x : Nat} {F : Nat → Int32} {G : Nat → Nat → Int32} {N : Nat → Nat} {Q : Nat → Nat → Nat} {v0 v16 : Nat} {v1 v2 : Int32} {v3 v4 v5 v6 v7 v8 v9 v10 v11 v12 v13 v14 : Nat → Int32} {v15 : Nat} {v17 v18 : Nat → Nat} (ht : t ≤ 3000) (hi : i < N 0) (hx : x ≤ 3000) (eF : F 0 = nI t) (ex : v7 i = nI x) (hst : v5 i = 0 ∨ v5 i = 2) (hpm : zPm v3) (h2 : zM9 t (N 0) (N 1) (G 9) (G 10) (G 12) (G 14) (G 15) v1 v2 v4 v5 v7 v8 v9 v10 v11 v12 v15 v18) :
    (vX6_settles (hu (hu F 1 v1) 2 v2) (hu (hu (hu (hu (hu (hu (hu (hu (hu (hu (hu (hu G 3 v3) 4 v4) 10 v5) 11 v6) 12 v7) 13 v8) 14 v9) 15 v10) 16 v11) 17 v12) 18 v13) 19 v14) (hu (hu N 1 v15) 2 v16) (hu (hu Q 0 v17) 1 v18) i = 0 ∧ sX6_settles (hu (hu F 1 v1) 2 v2) (hu (hu (hu (hu (hu (hu (hu (hu (hu (hu (hu (hu G 3 v3) 4 v4) 10 v5) 11 v6) 12 v7) 13 v8) 14 v9) 15 v10) 16 v11) 17 v12) 18 v13) 19 v14) (hu (hu N 1 v15) 2 v16) (hu (hu Q 0 v17) 1 v18) i = (v15, v18, v1, v2, v3, v4, v5, v6, v8, v9, v10, v11, v12, v13, v14) ∧ t < x + 3) ∨
    ((¬ vX6_settles (hu (hu F 1 v1) 2 v2) (hu (hu (hu (hu (hu (hu (hu (hu (hu (hu (hu (hu G 3 v3) 4 v4) 10 v5) 11 v6) 12 v7) 13 v8) 14 v9) 15 v10) 16 v11) 17 v12) 18 v13) 19 v14) (hu (hu N 1 v15) 2 v16) (hu (hu Q 0 v17) 1 v18) i = 0) ∧ ∃ S, sX6_settles (hu (hu F 1 v1) 2 v2) (hu (hu (hu (hu (hu (hu (hu (hu (hu (hu (hu (hu G 3 v3) 4 v4) 10 v5) 11 v6) 12 v7) 13 v8) 14 v9) 15 v10) 16 v11) 17 v12) 18 v13) 19 v14) (hu (hu N 1 v15) 2 v16) (hu (hu Q 0 v17) 1 v18) i = S ∧ zM9 t (N 0) (N 1) (G 9) (G 10) (G 12) (G 14) (G 15) (S.2.2.1) (S.2.2.2.1) (S.2.2.2.2.2.1) (S.2.2.2.2.2.2.1) (upd v7 i (-1)) (S.2.2.2.2.2.2.2.2.1) (S.2.2.2.2.2.2.2.2.2.1) (S.2.2.2.2.2.2.2.2.2.2.1) (S.2.2.2.2.2.2.2.2.2.2.2.1) (S.2.2.2.2.2.2.2.2.2.2.2.2.1) (S.1) (S.2.1)) := by
  have kd := z_kind (F := hu (hu F 1 v1) 2 v2) (G := (hu (hu (hu (hu (hu (hu (hu (hu (hu (hu (hu (hu G 3 v3) 4 v4) 10 v5) 11 v6) 12 v7) 13 v8) 14 v9) 15 v10) 16 v11) 17 v12) 18 v13) 19 v14)) (N := hu (hu N 1 v15) 2 v16) (Q := hu (hu Q 0 v17) 1 v18) (i := i) ht hx eF ex hst
  rcases kd with ⟨a, b, c⟩ | ⟨a, c, b⟩
  · exact Or.inl ⟨a, b, c⟩
  · refine Or.inr ⟨a, ?_⟩
    rcases b with e | e | ⟨o, hc, e⟩ | ⟨o, hc, e⟩
    · refine ⟨_, e, ?_⟩
      rw [zLose, z_lose6]
      exact z_m9lose h2 hi ex hx (vp_cl (hpm.1 0 (by decide))) (vp_cl (hpm.1 1 (by decide))) rfl
    · exact ⟨_, e, z_m9claim h2 hi ex hx⟩
    · rw [zBeg, (z_beg0 hc).2] at e
      refine ⟨_, e, ?_⟩
      dsimp only
      have hfree := Classical.not_not.mp (fun z => hc.2.1 rfl (z_free6.mpr z))
      have hp := z_frpI (F := hu (hu F 1 v1) 2 v2) (G := (hu (hu (hu (hu (hu (hu (hu (hu (hu (hu (hu (hu G 3 v3) 4 v4) 10 v5) 11 v6) 12 v7) 13 v8) 14 v9) 15 v10) 16 v11) 17 v12) 18 v13) 19 v14)) (N := hu (hu N 1 v15) 2 v16) (Q := hu (hu Q 0 v17) 1 v18) hpm hc.2.2.1
      generalize vX6_firstReadyPilot (hu (hu F 1 v1) 2 v2) (hu (hu (hu (hu (hu (hu (hu (hu (hu (hu (hu (hu G 3 v3) 4 v4) 10 v5) 11 v6) 12 v7) 13 v8) 14 v9) 15 v10) 16 v11) 17 v12) 18 v13) 19 v14) (hu (hu N 1 v15) 2 v16) (hu (hu Q 0 v17) 1 v18) = P at hp ⊢
      generalize vX6_lowestOf _ _ = TT
      rw [show (hu (hu F 1 v1) 2 v2) 0 = nI t from eF]
      exact z_m9beg h2 hi ex hx c hp (Or.inl ⟨rfl, o, rfl⟩) (fun _ => hfree) (dg := 50 + 30 * (hu (hu (hu (hu (hu (hu (hu (hu (hu (hu (hu (hu G 3 v3) 4 v4) 10 v5) 11 v6) 12 v7) 13 v8) 14 v9) 15 v10) 16 v11) 17 v12) 18 v13) 19 v14) 6 i + 100 * (hu (hu (hu (hu (hu (hu (hu (hu (hu (hu (hu (hu G 3 v3) 4 v4) 10 v5) 11 v6) 12 v7) 13 v8) 14 v9) 15 v10) 16 v11) 17 v12) 18 v13) 19 v14) 6 i) (by show v1 + _ + (v2 + _) + 50 = v1 + v2 + _; grind) (by show v8 i + 50 + _ + _ = _; grind)
    · rw [zBeg, (z_beg1 hc).2] at e
      refine ⟨_, e, ?_⟩
      dsimp only
      have hp := z_frpI (F := hu (hu F 1 v1) 2 v2) (G := (hu (hu (hu (hu (hu (hu (hu (hu (hu (hu (hu (hu G 3 v3) 4 v4) 10 v5) 11 v6) 12 v7) 13 v8) 14 v9) 15 v10) 16 v11) 17 v12) 18 v13) 19 v14)) (N := hu (hu N 1 v15) 2 v16) (Q := hu (hu Q 0 v17) 1 v18) hpm hc.2.2.1
      generalize vX6_firstReadyPilot (hu (hu F 1 v1) 2 v2) (hu (hu (hu (hu (hu (hu (hu (hu (hu (hu (hu (hu G 3 v3) 4 v4) 10 v5) 11 v6) 12 v7) 13 v8) 14 v9) 15 v10) 16 v11) 17 v12) 18 v13) 19 v14) (hu (hu N 1 v15) 2 v16) (hu (hu Q 0 v17) 1 v18) = P at hp ⊢
      generalize vX6_lowestOf _ _ = TT
      rw [show (hu (hu F 1 v1) 2 v2) 0 = nI t from eF]
      exact z_m9beg h2 hi ex hx c hp (Or.inr ⟨rfl, o, rfl⟩) (fun z => absurd z (by decide)) (dg := 50 + 30 * (hu (hu (hu (hu (hu (hu (hu (hu (hu (hu (hu (hu G 3 v3) 4 v4) 10 v5) 11 v6) 12 v7) 13 v8) 14 v9) 15 v10) 16 v11) 17 v12) 18 v13) 19 v14) 6 i) (by show v1 + _ + v2 + 50 = v1 + v2 + _; grind) (by show v8 i + 50 + _ = _; grind)
set_option maxHeartbeats 4000000 in
theorem z_step9 {t n j : Nat} {F : Nat → Int32} {G : Nat → Nat → Int32} {N : Nat → Nat} {Q : Nat → Nat → Nat} {f : Nat → Int32} {g : Nat → Nat → Int32} {fI : Nat → Int32} {gI : Nat → Nat → Int32} (hj : j < n) (v : Nat × Int32 × Int32 × (Nat → Int32) × (Nat → Int32) × (Nat → Int32) × (Nat → Int32) × (Nat → Int32) × (Nat → Int32) × (Nat → Int32) × (Nat → Int32) × (Nat → Int32) × (Nat → Int32) × (Nat → Int32) × (Nat → Int32) × Nat × Nat × (Nat → Nat) × (Nat → Nat)) (h : zL9 t F G N Q f g fI gI n j v) : zL9 t F G N Q f g fI gI n (j + 1) (bX6_lookAtOrders_10 F G N Q j v) := by
  obtain ⟨h1, h2, h3⟩ := h
  refine ⟨z_step hj v h1, ?_⟩
  obtain ⟨T, w, f', g', hT, hnf, hw, hR, hS, hQ, hn, hlo, hhi⟩ := h1
  obtain ⟨v0, v1, v2, v3, v4, v5, v6, v7, v8, v9, v10, v11, v12, v13, v14, v15, v16, v17, v18⟩ := v
  dsimp only at hQ hn hlo hhi h2 h3
  have lt : v0 < v16 := by omega
  obtain ⟨⟨ht, eF, f1, f18, f19, f5, f20⟩, hW, hP, hK, hE, hSt, hZ, hM, hO⟩ := hR
  have k0 : N 0 ≤ 30 := hK.1
  have hi : v17 v0 < N 0 := (hQ.1 v0 lt).1
  obtain ⟨hst, x, hx, ex⟩ : (v5 (v17 v0) = 0 ∨ v5 (v17 v0) = 2) ∧ ∃ x, x ≤ 3000 ∧ v7 (v17 v0) = nI x := ((hSt (v17 v0) hi).2.2.resolve_left (hQ.1 v0 lt).2)
  have kd := z_kind9 (F := F) (G := G) (N := N) (Q := Q) (v3 := v3) (v6 := v6) (v13 := v13) (v14 := v14) (v16 := v16) (v17 := v17) (v0 := v0) ht hi hx eF ex hst hP.2.2 h2
  rw [bX6_lookAtOrders_10]
  rcases kd with ⟨a, b, c⟩ | ⟨a, S, b, mS⟩
  · rw [if_pos a, b]
    refine ⟨h2, fun k hk => ?_⟩
    by_cases e : k = v0
    · rw [e]; exact ⟨x, ex, hx, c⟩
    · exact h3 k (by have : k < v0 + 1 := hk; omega)
  · rw [if_neg a, b]
    have ps := pO_spec (F := hu (hu F 1 S.2.2.1) 2 S.2.2.2.1) (G := (hu (hu (hu (hu (hu (hu (hu (hu (hu (hu (hu (hu G 3 S.2.2.2.2.1) 4 S.2.2.2.2.2.1) 10 S.2.2.2.2.2.2.1) 11 S.2.2.2.2.2.2.2.1) 12 v7) 13 S.2.2.2.2.2.2.2.2.1) 14 S.2.2.2.2.2.2.2.2.2.1) 15 S.2.2.2.2.2.2.2.2.2.2.1) 16 S.2.2.2.2.2.2.2.2.2.2.2.1) 17 S.2.2.2.2.2.2.2.2.2.2.2.2.1) 18 S.2.2.2.2.2.2.2.2.2.2.2.2.2.1) 19 S.2.2.2.2.2.2.2.2.2.2.2.2.2.2)) (N := hu (hu N 1 S.1) 2 v16) (Q := hu (hu Q 0 v17) 1 S.2.1) (i2 := v17 v0) (show v16 ≤ 100 by have := zQ_le hQ; omega)
    have pp := ps.resolve_left (fun z => z.2 v0 lt rfl)
    rw [sX2_drop]
    obtain ⟨y1, y2, y3, y4⟩ := pp
    generalize pO _ _ _ _ _ = P at y1 y2 y3 y4 ⊢
    have eP : P = v0 := by
      rcases Nat.lt_trichotomy P v0 with z | z | z
      · exact absurd y3 (zQ_ne hQ z lt)
      · exact z
      · exact absurd y3.symm (zQ_ne hQ z y2)
    rw [if_neg (show ¬ _ = (-1 : Int32) by rw [y1]; exact z_m1 (by have : v16 ≤ N 0 := zQ_le hQ; omega)), eP]
    refine ⟨mS, fun k hk => ?_⟩
    have hk' : k < v0 := hk
    show ∃ x, upd v7 (v17 v0) (-1) (delG v17 v0 k) = nI x ∧ x ≤ 3000 ∧ t < x + 3
    rw [delG, if_pos hk', up_n (zQ_ne hQ hk' lt)]
    exact h3 k hk'
theorem z_orders9 {t : Nat} {F : Nat → Int32} {G : Nat → Nat → Int32} {N : Nat → Nat} {Q : Nat → Nat → Nat} {f : Nat → Int32} {g : Nat → Nat → Int32} {fI : Nat → Int32} {gI : Nat → Nat → Int32} (h : zR t F G N Q fI gI) (hS : zSA F G N Q) (hq : zQ (N 0) (N 2) (G 8) (G 12) (Q 0)) (hm : zM9 t (N 0) (N 1) (G 9) (G 10) (G 12) (G 14) (G 15) (F 1) (F 2) (G 4) (G 10) (G 12) (G 13) (G 14) (G 15) (G 16) (G 17) (N 1) (Q 1)) {v : Nat × Int32 × Int32 × (Nat → Int32) × (Nat → Int32) × (Nat → Int32) × (Nat → Int32) × (Nat → Int32) × (Nat → Int32) × (Nat → Int32) × (Nat → Int32) × (Nat → Int32) × (Nat → Int32) × (Nat → Int32) × (Nat → Int32) × Nat × Nat × (Nat → Nat) × (Nat → Nat)} (ev : nf (bX6_lookAtOrders_10 F G N Q) (0, F 1, F 2, G 3, G 4, G 10, G 11, G 12, G 13, G 14, G 15, G 16, G 17, G 18, G 19, N 1, N 2, Q 0, Q 1) (N 2) = v) :
    zM9 t (N 0) (N 1) (G 9) (G 10) (G 12) (G 14) (G 15) (v.2.1) (v.2.2.1) (v.2.2.2.2.1) (v.2.2.2.2.2.1) (v.2.2.2.2.2.2.2.1) (v.2.2.2.2.2.2.2.2.1) (v.2.2.2.2.2.2.2.2.2.1) (v.2.2.2.2.2.2.2.2.2.2.1) (v.2.2.2.2.2.2.2.2.2.2.2.1) (v.2.2.2.2.2.2.2.2.2.2.2.2.1) (v.2.2.2.2.2.2.2.2.2.2.2.2.2.2.2.1) (v.2.2.2.2.2.2.2.2.2.2.2.2.2.2.2.2.2.2) ∧ ∀ s, s < N 0 → ¬ v.2.2.2.2.2.2.2.1 s = -1 → ∃ x, v.2.2.2.2.2.2.2.1 s = nI x ∧ x ≤ 3000 ∧ t < x + 3 := by
  have z0 : ∀ s, Nat.testBit 0 s = false := fun s => Nat.zero_testBit s
  have key := z_nfI (f := bX6_lookAtOrders_10 F G N Q) (a := (0, F 1, F 2, G 3, G 4, G 10, G 11, G 12, G 13, G 14, G 15, G 16, G 17, G 18, G 19, N 1, N 2, Q 0, Q 1)) (zL9 t F G N Q f g fI gI (N 2)) (N 2) ⟨⟨0, 0, fI, gI, Nat.le_refl _, rfl, by decide, h, z_sdr2 (i := 0) h hS rfl rfl rfl rfl rfl rfl rfl rfl rfl rfl rfl, hq, by show N 2 = 0 + (N 2 - 0); omega, fun k hk => absurd hk (Nat.not_lt_zero _), fun k _ _ => z0 _⟩, hm, fun k hk => absurd hk (Nat.not_lt_zero _)⟩ (fun j hj v hv => z_step9 hj v hv)
  rw [ev] at key
  obtain ⟨⟨T, w, f', g', hT, hnf, hw, hR, hS2, hQ, hn, hlo, hhi⟩, h2, h3⟩ := key
  refine ⟨h2, fun s hs c => ?_⟩
  obtain ⟨k, hk, ek⟩ := hQ.2.1 s hs c
  rw [← ek]
  exact h3 k (by omega)
end
