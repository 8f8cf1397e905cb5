section
/-- an hour: a.. ahead of it, u.. behind it; t the hour -/
def zH9 (t n0 : Nat) (g9 a5 a7 a9 a10 : Nat → Int32) (a15 : Nat) (u1 u2 : Int32) (u4 u5 u7 u8 u9 u10 u11 u12 : Nat → Int32) (u15 : Nat) (u18 : Nat → Nat) : Prop :=
  u1 + u2 + zIs u4 6 = zIs u8 n0 ∧ zB n0 g9 u5 ∧
  (a15 ≤ u15 ∧ ∀ m, a15 ≤ m → m < u15 → u11 m = nI t ∧ u18 m < n0 ∧ (∃ h, h ≤ t ∧ a7 (u18 m) = nI h) ∧ ((u12 m = 0 ∧ a5 (u18 m) = 0 ∧ u5 (u18 m) = 1) ∨ (u12 m = 1 ∧ a5 (u18 m) = 2 ∧ u5 (u18 m) = 3))) ∧
  (∀ s, s < n0 → (u7 s = -1 ∨ (u7 s = a7 s ∧ ∃ x, u7 s = nI x ∧ x ≤ 3000 ∧ t < x + 3)) ∧ (u5 s = a5 s ∨ u5 s = a5 s + 1)) ∧
  ∃ dl dc : Nat → Nat, (∀ s, u9 s = a9 s + nI (dl s) ∧ u10 s = a10 s + nI (dc s)) ∧ zC (fun s => decide ((¬ a7 s = -1) ∧ u7 s = -1)) n0 = (u15 - a15) + zSu dl n0 + zSu dc n0
theorem zEn_step {x s m : Int32} (h : s = 0 ∨ s = 1 ∨ s = 2 ∨ s = 3 ∨ s = 4) : (zEn x s m = s ∨ zEn x s m = s + 1) ∧ (zBz (zEn x s m) → zBz s) := by
  rcases h with e | e | e | e | e <;> rw [e] <;> unfold zEn zBz <;> by_cases q : (2 : Int32) ≤ x - m <;> simp [q]
theorem z_dues {F : Nat → Int32} {G : Nat → Nat → Int32} {N : Nat → Nat} {Q : Nat → Nat → Nat} {x1 : Int32} {e4 : Int32} (h : x1 + F 2 + e4 = zIs (G 13) (N 0)) : x1 + (sX6_takeBerthDues F G N Q).1 + e4 = zIs (sX6_takeBerthDues F G N Q).2 (N 0) :=
  z_nfI (f := bX6_takeBerthDues_2 F G N Q) (a := (F 2, G 13)) (fun _ v => x1 + v.1 + e4 = zIs v.2 (N 0)) (N 0) h (fun j hj v hv => by
    obtain ⟨v0, v1⟩ := v
    dsimp only at hv
    rw [bX6_takeBerthDues_2]
    split
    · show x1 + (v0 + _) + e4 = zIs (upd v1 j _) (N 0)
      rw [zIs_up rfl hj, ← hv]
      grind
    · exact hv)
theorem zM9_init {t n0 n1a : Nat} {g9 a10 a12 a14 a15 : Nat → Int32} {x1 x2 : Int32} {g4 g13 g16 g17 : Nat → Int32} {q1 : Nat → Nat} (h1 : x1 + x2 + zIs g4 6 = zIs g13 n0) (h2 : zB n0 g9 a10) : zM9 t n0 n1a g9 a10 a12 a14 a15 x1 x2 g4 a10 a12 g13 a14 a15 g16 g17 n1a q1 := by
  refine ⟨h1, h2, ⟨Nat.le_refl _, fun m k1 k2 => by omega⟩, fun s _ => Or.inl ⟨rfl, rfl⟩, fun _ => 0, fun _ => 0, fun s => ?_, ?_⟩
  · rw [show nI 0 = (0 : Int32) from rfl, Int32.add_zero, Int32.add_zero]; exact ⟨rfl, rfl⟩
  · rw [zSu_0, Nat.sub_self]
    exact zC_0.mpr (fun j _ => by simp)
set_option maxHeartbeats 4000000 in
theorem z_hour9 {t j : Nat} {a1 : Int32} {F : Nat → Int32} {G : Nat → Nat → Int32} {N : Nat → Nat} {Q : Nat → Nat → Nat} {f : Nat → Int32} {g : Nat → Nat → Int32} (hk : t + 1 ≤ 3000) {w0 w1 w2 : Int32} {w3 w4 w5 w6 w7 w8 w9 w10 w11 w12 w13 w14 : Nat → Int32} {w15 w16 : Nat} {w17 w18 : Nat → Nat} (hR : zR t (hu (hu (hu F 0 w0) 1 w1) 2 w2) (hu (hu (hu (hu (hu (hu (hu (hu (hu (hu (hu (hu G 3 w3) 4 w4) 10 w5) 11 w6) 12 w7) 13 w8) 14 w9) 15 w10) 16 w11) 17 w12) 18 w13) 19 w14) (hu (hu N 1 w15) 2 w16) (hu (hu Q 0 w17) 1 w18) f g) (hS : zSA (hu (hu (hu F 0 w0) 1 w1) 2 w2) (hu (hu (hu (hu (hu (hu (hu (hu (hu (hu (hu (hu G 3 w3) 4 w4) 10 w5) 11 w6) 12 w7) 13 w8) 14 w9) 15 w10) 16 w11) 17 w12) 18 w13) 19 w14) (hu (hu N 1 w15) 2 w16) (hu (hu Q 0 w17) 1 w18)) (hQ : zQ (N 0) w16 (G 8) w7 w17) (hm : w1 + w2 + zIs w4 6 = zIs w8 (N 0)) (hB : zB (N 0) (G 9) w5) {u : Int32 × Int32 × Int32 × (Nat → Int32) × (Nat → Int32) × (Nat → Int32) × (Nat → Int32) × (Nat → Int32) × (Nat → Int32) × (Nat → Int32) × (Nat → Int32) × (Nat → Int32) × (Nat → Int32) × (Nat → Int32) × (Nat → Int32) × Nat × Nat × (Nat → Nat) × (Nat → Nat)} (eu : bX6_pass_39 F G N Q a1 j (w0, w1, w2, w3, w4, w5, w6, w7, w8, w9, w10, w11, w12, w13, w14, w15, w16, w17, w18) = u) :
    zH9 (t + 1) (N 0) (G 9) w5 w7 w9 w10 w15 (u.2.1) (u.2.2.1) (u.2.2.2.2.1) (u.2.2.2.2.2.1) (u.2.2.2.2.2.2.2.1) (u.2.2.2.2.2.2.2.2.1) (u.2.2.2.2.2.2.2.2.2.1) (u.2.2.2.2.2.2.2.2.2.2.1) (u.2.2.2.2.2.2.2.2.2.2.2.1) (u.2.2.2.2.2.2.2.2.2.2.2.2.1) (u.2.2.2.2.2.2.2.2.2.2.2.2.2.2.2.1) (u.2.2.2.2.2.2.2.2.2.2.2.2.2.2.2.2.2.2) := by
  have f5 : (f 5).toNatClampNeg = N 0 := by
    have e : f 5 = nI (N 0) := hR.1.2.2.2.2.2.1
    have k0 : N 0 ≤ 30 := hR.2.2.2.1.1
    rw [e, nI_clamp (by omega)]
  have st : ∀ j, j < N 0 → w5 j = 0 ∨ w5 j = 1 ∨ w5 j = 2 ∨ w5 j = 3 ∨ w5 j = 4 := fun j hj => (hR.2.2.2.2.2.1 j hj).1
  have so : ∀ j, j < N 0 → w7 j = -1 ∨ (w5 j = 0 ∨ w5 j = 2) := fun j hj => ((hR.2.2.2.2.2.1 j hj).2.2).imp id (fun z => z.1)
  have eF : w0 + 1 = nI (t + 1) := by
    have : w0 = nI t := hR.1.2.1
    rw [this, nI_1]
  rw [bX6_pass_39] at eu
  generalize hE : (sX6_endMoves (hu (hu (hu F 0 (w0 + (1 : Int32))) 1 w1) 2 w2) (hu (hu (hu (hu (hu (hu (hu (hu (hu (hu (hu (hu G 3 w3) 4 w4) 10 w5) 11 w6) 12 w7) 13 w8) 14 w9) 15 w10) 16 w11) 17 w12) 18 w13) 19 w14) (hu (hu N 1 w15) 2 w16) (hu (hu Q 0 w17) 1 w18)) = E at eu
  generalize hD : (sX6_takeBerthDues (hu (hu (hu F 0 (w0 + (1 : Int32))) 1 w1) 2 w2) (hu (hu (hu (hu (hu (hu (hu (hu (hu (hu (hu (hu G 3 w3) 4 w4) 10 E) 11 w6) 12 w7) 13 w8) 14 w9) 15 w10) 16 w11) 17 w12) 18 w13) 19 w14) (hu (hu N 1 w15) 2 w16) (hu (hu Q 0 w17) 1 w18)) = D at eu
  obtain ⟨p1, p2⟩ := z_pre (F1 := (hu (hu (hu F 0 (w0 + (1 : Int32))) 1 w1) 2 w2)) (F2 := (hu (hu (hu F 0 (w0 + (1 : Int32))) 1 w1) 2 D.1)) (G1 := (hu (hu (hu (hu (hu (hu (hu (hu (hu (hu (hu (hu G 3 w3) 4 w4) 10 E) 11 w6) 12 w7) 13 w8) 14 w9) 15 w10) 16 w11) 17 w12) 18 w13) 19 w14)) (G2 := (hu (hu (hu (hu (hu (hu (hu (hu (hu (hu (hu (hu G 3 w3) 4 w4) 10 E) 11 w6) 12 w7) 13 D.2) 14 w9) 15 w10) 16 w11) 17 w12) 18 w13) 19 w14)) hR hS hk rfl rfl rfl hE.symm rfl rfl rfl (congrArg Prod.fst hD).symm (congrArg Prod.snd hD).symm hE.symm rfl rfl rfl rfl rfl rfl rfl rfl rfl rfl rfl rfl rfl rfl rfl rfl rfl rfl
  have E6 : ∀ j, j < N 0 → E j = zEn (nI (t + 1)) (w5 j) (w6 j) := fun j hj => by
    rw [← hE, z_end6 (F := (hu (hu (hu F 0 (w0 + (1 : Int32))) 1 w1) 2 w2)) (G := (hu (hu (hu (hu (hu (hu (hu (hu (hu (hu (hu (hu G 3 w3) 4 w4) 10 w5) 11 w6) 12 w7) 13 w8) 14 w9) 15 w10) 16 w11) 17 w12) 18 w13) 19 w14)) (N := (hu (hu N 1 w15) 2 w16)) (Q := (hu (hu Q 0 w17) 1 w18)) st j]
    show (if j < N 0 then zEn (w0 + 1) (w5 j) (w6 j) else w5 j) = _
    rw [if_pos hj, eF]
  have md : w1 + D.1 + zIs w4 6 = zIs D.2 (N 0) := by
    rw [← hD]
    exact z_dues (F := (hu (hu (hu F 0 (w0 + (1 : Int32))) 1 w1) 2 w2)) (G := (hu (hu (hu (hu (hu (hu (hu (hu (hu (hu (hu (hu G 3 w3) 4 w4) 10 E) 11 w6) 12 w7) 13 w8) 14 w9) 15 w10) 16 w11) 17 w12) 18 w13) 19 w14)) (N := (hu (hu N 1 w15) 2 w16)) (Q := (hu (hu Q 0 w17) 1 w18)) hm
  have hB2 : zB (N 0) (G 9) E := zB_mono hB (fun j hj z => by
    rw [E6 j hj] at z
    exact (zEn_step (st j hj)).2 z)
  have oE : ∀ j, j < N 0 → ¬ w7 j = -1 → E j = w5 j := fun j hj c => by
    rw [E6 j hj]
    exact (zEn_k (st j hj)).2.2.1 ((so j hj).resolve_left c)
  rw [sX6_lookAtOrders] at eu
  generalize ev : (nf (bX6_lookAtOrders_10 (hu (hu (hu F 0 (w0 + (1 : Int32))) 1 w1) 2 D.1) (hu (hu (hu (hu (hu (hu (hu (hu (hu (hu (hu (hu G 3 w3) 4 w4) 10 E) 11 w6) 12 w7) 13 D.2) 14 w9) 15 w10) 16 w11) 17 w12) 18 w13) 19 w14) (hu (hu N 1 w15) 2 w16) (hu (hu Q 0 w17) 1 w18)) (0, (hu (hu (hu F 0 (w0 + (1 : Int32))) 1 w1) 2 D.1) 1, (hu (hu (hu F 0 (w0 + (1 : Int32))) 1 w1) 2 D.1) 2, (hu (hu (hu (hu (hu (hu (hu (hu (hu (hu (hu (hu G 3 w3) 4 w4) 10 E) 11 w6) 12 w7) 13 D.2) 14 w9) 15 w10) 16 w11) 17 w12) 18 w13) 19 w14) 3, (hu (hu (hu (hu (hu (hu (hu (hu (hu (hu (hu (hu G 3 w3) 4 w4) 10 E) 11 w6) 12 w7) 13 D.2) 14 w9) 15 w10) 16 w11) 17 w12) 18 w13) 19 w14) 4, (hu (hu (hu (hu (hu (hu (hu (hu (hu (hu (hu (hu G 3 w3) 4 w4) 10 E) 11 w6) 12 w7) 13 D.2) 14 w9) 15 w10) 16 w11) 17 w12) 18 w13) 19 w14) 10, (hu (hu (hu (hu (hu (hu (hu (hu (hu (hu (hu (hu G 3 w3) 4 w4) 10 E) 11 w6) 12 w7) 13 D.2) 14 w9) 15 w10) 16 w11) 17 w12) 18 w13) 19 w14) 11, (hu (hu (hu (hu (hu (hu (hu (hu (hu (hu (hu (hu G 3 w3) 4 w4) 10 E) 11 w6) 12 w7) 13 D.2) 14 w9) 15 w10) 16 w11) 17 w12) 18 w13) 19 w14) 12, (hu (hu (hu (hu (hu (hu (hu (hu (hu (hu (hu (hu G 3 w3) 4 w4) 10 E) 11 w6) 12 w7) 13 D.2) 14 w9) 15 w10) 16 w11) 17 w12) 18 w13) 19 w14) 13, (hu (hu (hu (hu (hu (hu (hu (hu (hu (hu (hu (hu G 3 w3) 4 w4) 10 E) 11 w6) 12 w7) 13 D.2) 14 w9) 15 w10) 16 w11) 17 w12) 18 w13) 19 w14) 14, (hu (hu (hu (hu (hu (hu (hu (hu (hu (hu (hu (hu G 3 w3) 4 w4) 10 E) 11 w6) 12 w7) 13 D.2) 14 w9) 15 w10) 16 w11) 17 w12) 18 w13) 19 w14) 15, (hu (hu (hu (hu (hu (hu (hu (hu (hu (hu (hu (hu G 3 w3) 4 w4) 10 E) 11 w6) 12 w7) 13 D.2) 14 w9) 15 w10) 16 w11) 17 w12) 18 w13) 19 w14) 16, (hu (hu (hu (hu (hu (hu (hu (hu (hu (hu (hu (hu G 3 w3) 4 w4) 10 E) 11 w6) 12 w7) 13 D.2) 14 w9) 15 w10) 16 w11) 17 w12) 18 w13) 19 w14) 17, (hu (hu (hu (hu (hu (hu (hu (hu (hu (hu (hu (hu G 3 w3) 4 w4) 10 E) 11 w6) 12 w7) 13 D.2) 14 w9) 15 w10) 16 w11) 17 w12) 18 w13) 19 w14) 18, (hu (hu (hu (hu (hu (hu (hu (hu (hu (hu (hu (hu G 3 w3) 4 w4) 10 E) 11 w6) 12 w7) 13 D.2) 14 w9) 15 w10) 16 w11) 17 w12) 18 w13) 19 w14) 19, (hu (hu N 1 w15) 2 w16) 1, (hu (hu N 1 w15) 2 w16) 2, (hu (hu Q 0 w17) 1 w18) 0, (hu (hu Q 0 w17) 1 w18) 1) ((hu (hu N 1 w15) 2 w16) 2)) = L at eu
  obtain ⟨q1, q2⟩ := z_orders9 (f := f) (g := g) p1 p2 hQ (zM9_init (t := t + 1) md hB2) ev
  subst eu
  dsimp only
  obtain ⟨m1, m2, ⟨m3, m4⟩, m5, m6⟩ := q1
  refine ⟨m1, m2, ⟨m3, fun m k1 k2 => ?_⟩, fun s hs => ⟨?_, ?_⟩, m6⟩
  · obtain ⟨b1, b2, b3, ⟨x, b4, b5⟩, b6⟩ := m4 m k1 k2
    have b5' : w7 _ = nI x := b5
    have c := oE _ b2 (by rw [b5']; exact z_m1 (by omega))
    refine ⟨b1, b2, ⟨x, b4, b5⟩, b6.imp (fun z => ⟨z.1, c.symm.trans z.2.1, z.2.2⟩) (fun z => ⟨z.1, c.symm.trans z.2.1, z.2.2⟩)⟩
  · rcases m5 s hs with ⟨c, _⟩ | ⟨_, c, _⟩
    · by_cases d : w7 s = -1
      · exact Or.inl (c.trans d)
      · exact Or.inr ⟨c, q2 s hs (fun z => d (c.symm.trans z))⟩
    · exact Or.inl c
  · rcases m5 s hs with ⟨_, c⟩ | ⟨d, _, c⟩
    · have c' : _ = E s := c
      rw [c', E6 s hs]
      exact (zEn_step (st s hs)).1
    · have c2 : E s = w5 s := oE s hs d
      rw [← c2]
      exact c
end
