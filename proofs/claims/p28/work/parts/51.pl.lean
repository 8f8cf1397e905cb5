section
def zvF (F : Nat → Int32) (v : Nat × Int32 × Int32 × (Nat → Int32) × (Nat → Int32) × (Nat → Int32) × (Nat → Int32) × (Nat → Int32) × (Nat → Int32) × (Nat → Int32) × (Nat → Int32) × (Nat → Int32) × (Nat → Int32) × (Nat → Int32) × (Nat → Int32) × Nat × Nat × (Nat → Nat) × (Nat → Nat)) : Nat → Int32 := (hu (hu F 1 v.2.1) 2 v.2.2.1)
def zvG (G : Nat → Nat → Int32) (v : Nat × Int32 × Int32 × (Nat → Int32) × (Nat → Int32) × (Nat → Int32) × (Nat → Int32) × (Nat → Int32) × (Nat → Int32) × (Nat → Int32) × (Nat → Int32) × (Nat → Int32) × (Nat → Int32) × (Nat → Int32) × (Nat → Int32) × Nat × Nat × (Nat → Nat) × (Nat → Nat)) : Nat → Nat → Int32 := (hu (hu (hu (hu (hu (hu (hu (hu (hu (hu (hu (hu G 3 v.2.2.2.1) 4 v.2.2.2.2.1) 10 v.2.2.2.2.2.1) 11 v.2.2.2.2.2.2.1) 12 v.2.2.2.2.2.2.2.1) 13 v.2.2.2.2.2.2.2.2.1) 14 v.2.2.2.2.2.2.2.2.2.1) 15 v.2.2.2.2.2.2.2.2.2.2.1) 16 v.2.2.2.2.2.2.2.2.2.2.2.1) 17 v.2.2.2.2.2.2.2.2.2.2.2.2.1) 18 v.2.2.2.2.2.2.2.2.2.2.2.2.2.1) 19 v.2.2.2.2.2.2.2.2.2.2.2.2.2.2.1)
def zvN (N : Nat → Nat) (v : Nat × Int32 × Int32 × (Nat → Int32) × (Nat → Int32) × (Nat → Int32) × (Nat → Int32) × (Nat → Int32) × (Nat → Int32) × (Nat → Int32) × (Nat → Int32) × (Nat → Int32) × (Nat → Int32) × (Nat → Int32) × (Nat → Int32) × Nat × Nat × (Nat → Nat) × (Nat → Nat)) : Nat → Nat := (hu (hu N 1 v.2.2.2.2.2.2.2.2.2.2.2.2.2.2.2.1) 2 v.2.2.2.2.2.2.2.2.2.2.2.2.2.2.2.2.1)
def zvQ (Q : Nat → Nat → Nat) (v : Nat × Int32 × Int32 × (Nat → Int32) × (Nat → Int32) × (Nat → Int32) × (Nat → Int32) × (Nat → Int32) × (Nat → Int32) × (Nat → Int32) × (Nat → Int32) × (Nat → Int32) × (Nat → Int32) × (Nat → Int32) × (Nat → Int32) × Nat × Nat × (Nat → Nat) × (Nat → Nat)) : Nat → Nat → Nat := (hu (hu Q 0 v.2.2.2.2.2.2.2.2.2.2.2.2.2.2.2.2.2.1) 1 v.2.2.2.2.2.2.2.2.2.2.2.2.2.2.2.2.2.2)
theorem z_stay {α : Type} {f : Nat → α → α} {a s : α} {T : Nat} (h : nf f a T = s) (hs : ∀ j, f j s = s) : ∀ k, nf f a (T + k) = s := by
  intro k
  induction k with
  | zero => exact h
  | succ k ih =>
    show f (T + k) (nf f a (T + k)) = s
    rw [ih, hs]
def zLI (t : Nat) (F : Nat → Int32) (G : Nat → Nat → Int32) (N : Nat → Nat) (Q : Nat → Nat → Nat) (f0 : Nat → Int32) (g0 : Nat → Nat → Int32) (fI : Nat → Int32) (gI : Nat → Nat → Int32) (n j : Nat) (v : Nat × Int32 × Int32 × (Nat → Int32) × (Nat → Int32) × (Nat → Int32) × (Nat → Int32) × (Nat → Int32) × (Nat → Int32) × (Nat → Int32) × (Nat → Int32) × (Nat → Int32) × (Nat → Int32) × (Nat → Int32) × (Nat → Int32) × Nat × Nat × (Nat → Nat) × (Nat → Nat)) : Prop :=
  ∃ T w f g, T ≤ j ∧ nf (bX7_passes_129 f0 g0) ((0 : Int32), fI, gI) T = (nI w, f, g) ∧ w < 2 ^ 30 ∧ zR t (zvF F v) (zvG G v) (zvN N v) (zvQ Q v) f g ∧ zSA (zvF F v) (zvG G v) (zvN N v) (zvQ Q v) ∧ zQ (N 0) (v.2.2.2.2.2.2.2.2.2.2.2.2.2.2.2.2.1) (G 8) (v.2.2.2.2.2.2.2.1) (v.2.2.2.2.2.2.2.2.2.2.2.2.2.2.2.2.2.1) ∧ v.2.2.2.2.2.2.2.2.2.2.2.2.2.2.2.2.1 = v.1 + (n - j) ∧
    (∀ k, k < v.1 → (∃ x, t < x ∧ x ≤ 3000 ∧ v.2.2.2.2.2.2.2.1 (v.2.2.2.2.2.2.2.2.2.2.2.2.2.2.2.2.2.1 k) = nI x) ∨ Nat.testBit w (v.2.2.2.2.2.2.2.2.2.2.2.2.2.2.2.2.2.1 k) = true) ∧ (∀ k, v.1 ≤ k → k < v.2.2.2.2.2.2.2.2.2.2.2.2.2.2.2.2.1 → Nat.testBit w (v.2.2.2.2.2.2.2.2.2.2.2.2.2.2.2.2.2.1 k) = false)
theorem z_step {t n j : Nat} {F : Nat → Int32} {G : Nat → Nat → Int32} {N : Nat → Nat} {Q : Nat → Nat → Nat} {f : Nat → Int32} {g : Nat → Nat → Int32} {fI : Nat → Int32} {gI : Nat → Nat → Int32} (hj : j < n) (v : Nat × Int32 × Int32 × (Nat → Int32) × (Nat → Int32) × (Nat → Int32) × (Nat → Int32) × (Nat → Int32) × (Nat → Int32) × (Nat → Int32) × (Nat → Int32) × (Nat → Int32) × (Nat → Int32) × (Nat → Int32) × (Nat → Int32) × Nat × Nat × (Nat → Nat) × (Nat → Nat)) (h : zLI t F G N Q f g fI gI n j v) : zLI t F G N Q f g fI gI n (j + 1) (bX6_lookAtOrders_10 F G N Q j v) := by
  obtain ⟨T, w, f', g', hT, hnf, hw, hR, hS, hQ, hn, hlo, hhi⟩ := h
  obtain ⟨v0, v1, v2, v3, v4, v5, v6, v7, v8, v9, v10, v11, v12, v13, v14, v15, v16, v17, v18⟩ := v
  dsimp only at hQ hn hlo hhi
  have lt : v0 < v16 := by omega
  have hR2 := hR
  obtain ⟨⟨ht, eF, f1, f18, f19, f5, f20⟩, hW, hP, hK, hE, hSt, hZ, hM, hO⟩ := hR2
  have k0 : N 0 ≤ 30 := hK.1
  have hi : v17 v0 < N 0 := (hQ.1 v0 lt).1
  obtain ⟨x, hx, ex⟩ : ∃ x, x ≤ 3000 ∧ v7 (v17 v0) = nI x := ((hSt (v17 v0) hi).2.2.resolve_left (hQ.1 v0 lt).2).2
  obtain ⟨c1, c2⟩ := z_look hR hS hi hx ex
  rw [bX6_lookAtOrders_10]
  by_cases q : t < x
  · obtain ⟨a, b⟩ := c1 q
    unfold zvF zvG zvN zvQ at a b
    rw [if_pos a, b]
    refine ⟨T, w, f', g', by omega, hnf, hw, hR, hS, hQ, show v16 = v0 + 1 + (n - (j + 1)) by omega, fun k hk => ?_, fun k hk hk2 => hhi k (by have : v0 + 1 ≤ k := hk; omega) hk2⟩
    by_cases e : k = v0
    · rw [e]; exact Or.inl ⟨x, q, hx, ex⟩
    · exact hlo k (by have : k < v0 + 1 := hk; omega)
  · have q' : x ≤ t := by omega
    have g11 : g' 11 (v17 v0) = nI x := (hE.2.1 _ hi).symm.trans ex
    have ord : ∀ s, s < N 0 → g' 11 s = -1 ∨ ∃ h, h ≤ 3000 ∧ g' 11 s = nI h := fun s hs => by
      have e := hE.2.1 s hs
      rcases (hSt s hs).2.2 with z | ⟨_, h, z1, z2⟩
      · exact Or.inl (e.symm.trans z)
      · exact Or.inr ⟨h, z1, e.symm.trans z2⟩
    have sel := z_sel1 (f0 := f) (g0 := g) (f := f') (g := g') (j := T) (t := t) (w := w) (n := N 0) (m := v17 v0) (by omega) hw k0 f1 ord hi ⟨x, q', g11, hhi v0 (Nat.le_refl _) lt⟩ (by
      rintro s hs ⟨h, hh, eh, hb⟩ hne
      have e12 : v7 s = nI h := (hE.2.1 s hs).trans eh
      obtain ⟨k, hk, ek⟩ := hQ.2.1 s hs (by rw [e12]; exact z_m1 (by omega))
      rcases Nat.lt_trichotomy k v0 with z | z | z
      · rcases hlo k z with ⟨y, y1, y2, y3⟩ | y
        · rw [ek, e12] at y3
          have := (nI_eq (by omega) (by omega)).mp y3
          omega
        · rw [ek, hb] at y; exact absurd y (by decide)
      · rw [z] at ek; exact absurd ek.symm hne
      · have := hQ.2.2 v0 k z hk
        rw [ek] at this
        exact (zAh_congr (hK.2.2.2.2.1 _ hi) (hK.2.2.2.2.1 _ hs) (hE.2.1 _ hi) (hE.2.1 _ hs)).mp this)
    obtain ⟨o1, o2, o3⟩ := z_so (w := w) (i := v17 v0) hw (by omega)
    have turn : nf (bX7_passes_129 f g) ((0 : Int32), fI, gI) (T + 1) = (nI (w ||| 2 ^ (v17 v0)), (sX7_looksAt f' g' (nI (v17 v0))).1, (sX7_looksAt f' g' (nI (v17 v0))).2) := by
      show bX7_passes_129 f g T (nf (bX7_passes_129 f g) ((0 : Int32), fI, gI) T) = _
      have f5' : f' 5 = nI (N 0) := f5
      rw [hnf, bX7_passes_129, f5', nI_clamp (show N 0 < 2 ^ 31 by omega), sel, if_neg (z_m1 (by omega)), o1]
    have hi2 : ∀ k, v0 < k → k < v16 → Nat.testBit (w ||| 2 ^ (v17 v0)) (v17 k) = false := fun k hk hk2 => by
      rw [o3, hhi k (by omega) hk2, Bool.false_or]
      exact decide_eq_false (zQ_ne hQ hk hk2)
    have lo2 : ∀ k, k < v0 → (∃ x, t < x ∧ x ≤ 3000 ∧ v7 (v17 k) = nI x) ∨ Nat.testBit (w ||| 2 ^ (v17 v0)) (v17 k) = true := fun k hk => by
      rcases hlo k hk with z | z
      · exact Or.inl z
      · refine Or.inr ?_
        rw [o3, z]; rfl
    rcases c2 q' with ⟨a, b, l⟩ | ⟨a, r1, r2⟩
    · unfold zvF zvG zvN zvQ at a b
      rw [if_pos a, b]
      rw [l] at turn
      refine ⟨T + 1, w ||| 2 ^ (v17 v0), f', g', by omega, turn, o2, hR, hS, hQ, show v16 = v0 + 1 + (n - (j + 1)) by omega, fun k hk => ?_, fun k hk hk2 => hi2 k (by have : v0 + 1 ≤ k := hk; omega) hk2⟩
      by_cases e : k = v0
      · rw [e]; refine Or.inr ?_
        show Nat.testBit (w ||| 2 ^ (v17 v0)) (v17 v0) = true
        rw [o3, decide_eq_true rfl, Bool.or_true]
      · exact lo2 k (by have : k < v0 + 1 := hk; omega)
    · unfold zvF zvG zvN zvQ at a r1 r2
      rw [if_neg a]
      generalize sX6_settles _ _ _ _ _ = S at r1 r2 ⊢
      have ps := pO_spec (F := hu (hu F 1 S.2.2.1) 2 S.2.2.2.1) (G := (hu (hu (hu (hu (hu (hu (hu (hu (hu (hu (hu (hu G 3 S.2.2.2.2.1) 4 S.2.2.2.2.2.1) 10 S.2.2.2.2.2.2.1) 11 S.2.2.2.2.2.2.2.1) 12 v7) 13 S.2.2.2.2.2.2.2.2.1) 14 S.2.2.2.2.2.2.2.2.2.1) 15 S.2.2.2.2.2.2.2.2.2.2.1) 16 S.2.2.2.2.2.2.2.2.2.2.2.1) 17 S.2.2.2.2.2.2.2.2.2.2.2.2.1) 18 S.2.2.2.2.2.2.2.2.2.2.2.2.2.1) 19 S.2.2.2.2.2.2.2.2.2.2.2.2.2.2)) (N := hu (hu N 1 S.1) 2 v16) (Q := hu (hu Q 0 v17) 1 S.2.1) (i2 := v17 v0) (show v16 ≤ 100 by have := zQ_le hQ; omega)
      have pp := ps.resolve_left (fun z => z.2 v0 lt rfl)
      rw [sX2_drop]
      obtain ⟨y1, y2, y3, y4⟩ := pp
      generalize pO _ _ _ _ _ = P at y1 y2 y3 y4 ⊢
      have eP : P = v0 := by
        rcases Nat.lt_trichotomy P v0 with z | z | z
        · exact absurd y3 (zQ_ne hQ z lt)
        · exact z
        · exact absurd y3.symm (zQ_ne hQ z y2)
      rw [if_neg (show ¬ _ = (-1 : Int32) by rw [y1]; exact z_m1 (by have : v16 ≤ N 0 := zQ_le hQ; omega)), eP]
      refine ⟨T + 1, w ||| 2 ^ (v17 v0), _, _, by omega, turn, o2, r1, ?_, z_del hQ lt rfl, show v16 - 1 = v0 + (n - (j + 1)) by omega, fun k hk => ?_, fun k hk hk2 => ?_⟩
      · intro m hm
        exact r2 m hm
      · show (∃ x, t < x ∧ x ≤ 3000 ∧ upd v7 (v17 v0) (-1) (delG v17 v0 k) = nI x) ∨ Nat.testBit (w ||| 2 ^ (v17 v0)) (delG v17 v0 k) = true
        have hk' : k < v0 := hk
        rw [delG, if_pos hk', up_n (zQ_ne hQ hk' lt)]
        exact lo2 k hk'
      · show Nat.testBit (w ||| 2 ^ (v17 v0)) (delG v17 v0 k) = false
        have h1 : v0 ≤ k := hk
        have h2 : k < v16 - 1 := hk2
        rw [delG, if_neg (by omega)]
        exact hi2 (k + 1) (by omega) (by omega)
end
