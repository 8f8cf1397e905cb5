section
theorem zEn_k {x s m : Int32} (h : s = 0 ∨ s = 1 ∨ s = 2 ∨ s = 3 ∨ s = 4) : (zEn x s m = 0 ∨ zEn x s m = 1 ∨ zEn x s m = 2 ∨ zEn x s m = 3 ∨ zEn x s m = 4) ∧ ((zEn x s m = 1 ∨ zEn x s m = 3) → s = zEn x s m) ∧ ((s = 0 ∨ s = 2) → zEn x s m = s) ∧ (zEn x s m = 0 ↔ s = 0) ∧ ((zEn x s m = 3 ∨ zEn x s m = 4) ↔ (s = 3 ∨ s = 4)) ∧ (zEn x s m = 4 → s = 4 ∨ (s = 3 ∧ 2 ≤ x - m)) := by
  rcases h with e | e | e | e | e <;> rw [e] <;> unfold zEn <;> by_cases q : (2 : Int32) ≤ x - m <;> simp [q]
theorem zEn_c {x s m : Int32} (h1 : ¬ s = 1) (h3 : ¬ s = 3) : zEn x s m = s := by
  rw [zEn, if_neg h1, if_neg h3]
theorem z_pre {t : Nat} {F : Nat → Int32} {G : Nat → Nat → Int32} {N : Nat → Nat} {Q : Nat → Nat → Nat} {f : Nat → Int32} {g : Nat → Nat → Int32} {F1 F2 : Nat → Int32} {G1 G2 : Nat → Nat → Int32} (h : zR t F G N Q f g) (hS : zSA F G N Q) (ht1 : t + 1 ≤ 3000)
    (a0 : F1 0 = F 0 + 1) (a2 : F1 2 = F 2) (b6 : G1 6 = G 6) (b10 : G1 10 = sX6_endMoves F1 G N Q) (b13 : G1 13 = G 13)
    (c0 : F2 0 = F1 0) (c1 : F2 1 = F 1) (c2 : F2 2 = (sX6_takeBerthDues F1 G1 N Q).1) (d13 : G2 13 = (sX6_takeBerthDues F1 G1 N Q).2) (d10 : G2 10 = sX6_endMoves F1 G N Q)
    (d0 : G2 0 = G 0) (d1 : G2 1 = G 1) (d2 : G2 2 = G 2) (d3 : G2 3 = G 3) (d4 : G2 4 = G 4) (d5 : G2 5 = G 5) (d6 : G2 6 = G 6) (d7 : G2 7 = G 7) (d8 : G2 8 = G 8) (d9 : G2 9 = G 9) (d11 : G2 11 = G 11) (d12 : G2 12 = G 12) (d14 : G2 14 = G 14) (d15 : G2 15 = G 15) (d16 : G2 16 = G 16) (d17 : G2 17 = G 17) (d18 : G2 18 = G 18) (d19 : G2 19 = G 19) :
    zR (t + 1) F2 G2 N Q (hu (hu f 1 ((f 1) + (1 : Int32))) 19 (nf (bX7_passes_12 f g) ((f 19), (g 10), (g 13)) ((f 5).toNatClampNeg)).1) (hu (hu g 10 (nf (bX7_passes_12 f g) ((f 19), (g 10), (g 13)) ((f 5).toNatClampNeg)).2.1) 13 (nf (bX7_passes_12 f g) ((f 19), (g 10), (g 13)) ((f 5).toNatClampNeg)).2.2) ∧ zSA F2 G2 N Q := by
  have hh := h
  obtain ⟨⟨ht, eF, f1, f18, f19, f5, f20⟩, hW, hP, hK, ⟨e10, e12, e13, e14, e15⟩, hSt, hZ, hM, hO⟩ := hh
  have k0 := hK.1
  have st : ∀ j, j < N 0 → G 10 j = 0 ∨ G 10 j = 1 ∨ G 10 j = 2 ∨ G 10 j = 3 ∨ G 10 j = 4 := fun j hj => (hSt j hj).1
  have x1 : F1 0 = nI (t + 1) := by rw [a0, eF, nI_1]
  have E6 : ∀ j, j < N 0 → sX6_endMoves F1 G N Q j = zEn (nI (t + 1)) (G 10 j) (G 11 j) := fun j hj => by
    rw [z_end6 st j, if_pos hj, x1]
  have E7 : ∀ j, j < N 0 → zEn (f 1 + 1) (g 10 j) (g 12 j) = sX6_endMoves F1 G N Q j := fun j hj => by
    rw [E6 j hj, f1, nI_1, ← e10 j hj]
    rcases st j hj with e | e | e | e | e
    · rw [e, zEn_c (by decide) (by decide), zEn_c (by decide) (by decide)]
    · rw [((hSt j hj).2.1 (Or.inl e)).1]
    · rw [e, zEn_c (by decide) (by decide), zEn_c (by decide) (by decide)]
    · rw [((hSt j hj).2.1 (Or.inr e)).1]
    · rw [e, zEn_c (by decide) (by decide), zEn_c (by decide) (by decide)]
  rw [f5, nI_clamp (show N 0 < 2 ^ 31 by omega)]
  have sim := z_nfR (f := bX6_takeBerthDues_2 F1 G1 N Q) (g := bX7_passes_12 f g) (a := (F1 2, G1 13)) (b := (f 19, g 10, g 13)) (fun k v u => v.1 = u.1 ∧ (∀ j, u.2.1 j = if j < k then sX6_endMoves F1 G N Q j else g 10 j) ∧ zAg (N 0) v.2 u.2.2 ∧ ∀ j, N 0 ≤ j → u.2.2 j = g 13 j) (N 0) ⟨by rw [a2]; exact f19.symm, fun j => by rw [if_neg (by omega)], by rw [b13]; exact e13, fun j _ => rfl⟩ (by
    rintro k hk ⟨v0, v1⟩ ⟨p, s, d⟩ ⟨h1, h2, h3, h4⟩
    dsimp only at h1 h2 h3 h4
    have hs : s k = g 10 k := by rw [h2 k, if_neg (by omega)]
    have st7 : g 10 k = 0 ∨ g 10 k = 1 ∨ g 10 k = 2 ∨ g 10 k = 3 ∨ g 10 k = 4 := by rw [← e10 k hk]; exact st k hk
    rw [z_p12 (by omega) hs st7, E7 k hk, bX6_takeBerthDues_2, b10, b6]
    have nx : ∀ j, upd s k (sX6_endMoves F1 G N Q k) j = if j < k + 1 then sX6_endMoves F1 G N Q j else g 10 j := fun j => by
      by_cases c : j = k
      · rw [c, up_s, if_pos (by omega)]
      · rw [up_n c, h2 j]
        by_cases d : j < k
        · rw [if_pos d, if_pos (by omega)]
        · rw [if_neg d, if_neg (by omega)]
    have e6 := hK.2.2.1 k hk
    by_cases q : sX6_endMoves F1 G N Q k = 2
    · rw [if_pos q, if_pos q]
      refine ⟨?_, nx, ?_, fun j hj => ?_⟩
      · dsimp only; rw [h1, e6]
      · dsimp only
        exact zAg_up h3 k (by rw [h3 k hk, e6])
      · dsimp only
        rw [up_n (by omega)]; exact h4 j hj
    · rw [if_neg q, if_neg q]
      exact ⟨h1, nx, h3, h4⟩)
  generalize hu7 : nf (bX7_passes_12 f g) (f 19, g 10, g 13) (N 0) = u at sim ⊢
  obtain ⟨s1, s2, s3, s4⟩ := sim
  have t1 : (sX6_takeBerthDues F1 G1 N Q).1 = u.1 := s1
  have t2 : zAg (N 0) (sX6_takeBerthDues F1 G1 N Q).2 u.2.2 := s3
  have EK := fun j (hj : j < N 0) => zEn_k (x := nI (t + 1)) (m := G 11 j) (st j hj)
  refine ⟨⟨⟨ht1, by rw [c0]; exact x1, ?_, by rw [c1]; exact f18, by rw [c2]; exact t1.symm, f5, f20⟩, by rw [d0, d1, d2]; exact hW, by rw [d3, d4]; exact hP, by rw [d5, d6, d7, d8, d9]; exact hK, ⟨?_, by rw [d12]; exact e12, by rw [d13]; exact t2, by rw [d14]; exact e14, by rw [d15]; exact e15⟩, ?_, fun j hj hj2 => ?_, ?_, ?_⟩, ?_⟩
  · show f 1 + (1 : Int32) = nI (t + 1)
    rw [f1, nI_1]
  · rw [d10]
    intro j hj
    show sX6_endMoves F1 G N Q j = u.2.1 j
    rw [s2 j, if_pos hj]
  · rw [d10, d11, d12]
    intro j hj
    obtain ⟨p1, p2, p3⟩ := hSt j hj
    obtain ⟨q1, q2, q3, q4, q5, q6⟩ := EK j hj
    rw [E6 j hj]
    refine ⟨q1, fun z => ?_, ?_⟩
    · have := q2 z
      rw [← this] at z
      obtain ⟨r1, y, r2, r3⟩ := p2 z
      exact ⟨r1, y, by omega, r3⟩
    · rcases p3 with z | ⟨z, y⟩
      · exact Or.inl z
      · exact Or.inr ⟨by rw [q3 z]; exact z, y⟩
  · obtain ⟨a, b, c, d⟩ := hZ j hj hj2
    refine ⟨?_, ?_, c, d⟩
    · show u.2.1 j = 0
      rw [s2 j, if_neg (by omega)]; exact a
    · show u.2.2 j = 0
      rw [s4 j hj]; exact b
  · rw [d16, d17, d18, d19]
    exact ⟨hM.1, zHo_mono (by omega) hM.2.1, hM.2.2⟩
  · rw [d10, d11, d16, d17]
    intro s hs
    obtain ⟨o1, o2, o3, o4⟩ := hO s hs
    obtain ⟨q1, q2, q3, q4, q5, q6⟩ := EK s hs
    rw [E6 s hs]
    refine ⟨?_, ?_, fun z k hk hq => ?_, fun z k hk hq => ?_⟩
    · rw [o1]; simp only [q4]
    · rw [o2]; simp only [q5]
    · rcases q6 z with y | ⟨y, y2⟩
      · have := o3 y k hk hq; omega
      · have a1 := o4 (Or.inr y) k hk hq
        obtain ⟨_, x, hx, ex⟩ := (hSt s hs).2.1 (Or.inr y)
        rw [ex, nI_clamp (by omega)] at a1
        rw [ex] at y2
        have := (z_sle (c := 2) (t := t + 1) (h := x) (by omega) (by omega) (by omega)).mp y2
        omega
    · have := q2 z
      rw [← this] at z
      exact o4 z k hk hq
  · exact z_sdr2 (i := 0) h hS rfl d0.symm d1.symm d2.symm d7.symm d9.symm d16.symm d17.symm d18.symm d19.symm rfl
end
