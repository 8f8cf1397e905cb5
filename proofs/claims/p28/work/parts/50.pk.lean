section
theorem z_sdr2 {t i : Nat} {F : Nat → Int32} {G : Nat → Nat → Int32} {N : Nat → Nat} {Q : Nat → Nat → Nat} {f : Nat → Int32} {g : Nat → Nat → Int32} {F' : Nat → Int32} {G' : Nat → Nat → Int32} {N' : Nat → Nat} {Q' : Nat → Nat → Nat} (h : zR t F G N Q f g) (hS : zSA F G N Q) (e1 : N' 1 = N 1) (h0 : G 0 = G' 0) (h1 : G 1 = G' 1) (h2 : G 2 = G' 2) (h7 : G 7 = G' 7) (h9 : G 9 = G' 9) (h16 : G 16 = G' 16) (h17 : G 17 = G' 17) (h18 : G 18 = G' 18) (h19 : G 19 = G' 19) (hq : Q 1 = Q' 1) : zSA F' G' N' Q' := by
  obtain ⟨hT, hW, hP, hK, hE, hSt, hZ, hM, hO⟩ := h
  intro m hm
  rw [e1] at hm
  exact z_sdr (F := F) (G := G) (N := N) (Q := Q) (t := t) (by have := hT.1; omega) hM.2.1 hm h0 h1 h2 h7 h9 (fun k _ => by rw [h16]) (fun k _ => by rw [h17]) (fun k _ => by rw [h18]) (fun k _ => by rw [h19]) (fun k _ => by rw [hq]) (hS m hm)
theorem z_look {t i x : Nat} {F : Nat → Int32} {G : Nat → Nat → Int32} {N : Nat → Nat} {Q : Nat → Nat → Nat} {f : Nat → Int32} {g : Nat → Nat → Int32} (h : zR t F G N Q f g) (hS : zSA F G N Q) (hi : i < N 0) (hx : x ≤ 3000) (eh : G 12 i = nI x) :
    (t < x → vX6_settles F G N Q i = 0 ∧ sX6_settles F G N Q i = zSame F G N Q) ∧
    (x ≤ t → (vX6_settles F G N Q i = 0 ∧ sX6_settles F G N Q i = zSame F G N Q ∧ sX7_looksAt f g (nI i) = (f, g)) ∨
      ((¬ vX6_settles F G N Q i = 0) ∧ zR t (zwF F (sX6_settles F G N Q i)) (zwG G (sX6_settles F G N Q i) i) (hu N 1 (sX6_settles F G N Q i).1) (hu Q 1 (sX6_settles F G N Q i).2.1) (sX7_looksAt f g (nI i)).1 (sX7_looksAt f g (nI i)).2 ∧ zSA (zwF F (sX6_settles F G N Q i)) (zwG G (sX6_settles F G N Q i) i) (hu N 1 (sX6_settles F G N Q i).1) (hu Q 1 (sX6_settles F G N Q i).2.1))) := by
  have hh := h
  obtain ⟨⟨ht, eF, f1, f18, f19, f5, f20⟩, hW, hP, hK, hE, hSt, hZ, hM, hO⟩ := hh
  have k0 := hK.1
  have st : G 10 i = 0 ∨ G 10 i = 2 := by
    rcases (hSt i hi).2.2 with z | ⟨z, _⟩
    · rw [eh] at z; exact absurd z (z_m1 (by omega))
    · exact z
  have cc := z_car (F := F) (G := G) (N := N) (Q := Q) (f := f) (g := g) hW (i := i) (t := t) (by omega) ht (hK.2.2.2.1 i hi) (hK.2.2.2.2.2 i hi) (hE.1 i hi) (hK.2.1 i hi).2.2
  obtain ⟨o, ho, hc⟩ : ∃ o : Int32, ((G 10 i = 2 ∧ o = 1) ∨ (G 10 i = 0 ∧ o = 0)) ∧ vX5_carries F G N Q i o (nI t) = vX7_floats f g (nI i) (nI t) := by
    rcases st with z | z
    · exact ⟨0, Or.inr ⟨z, rfl⟩, cc.1 z⟩
    · exact ⟨1, Or.inl ⟨z, rfl⟩, cc.2 z⟩
  have ho2 : (G 10 i = 2 ∧ o = 1) ∨ (¬ G 10 i = 2 ∧ o = 0) := ho.imp id (fun z => ⟨by rw [z.1]; decide, z.2⟩)
  obtain ⟨s1, s2, s3, s4⟩ := z_set6 (F := F) (G := G) (N := N) (Q := Q) (i := i) ht hx eF eh ho2
  obtain ⟨l1, l2, l3⟩ := z_lk7 (f := f) (g := g) (i := i) (by omega)
  have g11 : g 11 i = nI x := (hE.2.1 i hi).symm.trans eh
  have xt : g 11 i = f 1 ↔ x = t := by rw [g11, f1]; exact nI_eq (by omega) (by omega)
  have can := (z_can h hi ho).1
  refine ⟨s1, fun q => ?_⟩
  rw [f1, ← hc] at l1 l2 l3
  rw [f1] at xt
  by_cases a : x = t ∧ vX5_carries F G N Q i o (nI t) = 0
  · obtain ⟨b1, b2⟩ := s2 a.1 a.2
    refine Or.inr ⟨by rw [b1]; decide, ?_, ?_⟩
    · rw [b2, l1 (xt.mpr a.1) a.2]
      exact z_lost h hi
    · rw [b2]
      exact z_sdr2 (i := i) h hS rfl rfl rfl rfl rfl rfl rfl rfl rfl rfl rfl
  · have na : ¬ (g 11 i = nI t ∧ vX5_carries F G N Q i o (nI t) = 0) := fun z => a ⟨xt.mp z.1, z.2⟩
    by_cases b : vX5_carries F G N Q i o (nI t) = 0 ∨ ¬ zCan6 F G N Q i o
    · have b7 : vX5_carries F G N Q i o (nI t) = 0 ∨ ¬ zCan7 f g i := b.imp id (fun z y => z (can.mpr y))
      obtain ⟨u1, u2⟩ := s3 q a b
      have lk := l2 na b7
      have d3 : nI t - g 11 i < (3 : Int32) ↔ t < x + 3 := by rw [g11]; exact z_slt (c := 3) (by omega) q (by omega)
      by_cases e : t < x + 3
      · rw [if_pos (d3.mpr e)] at lk
        exact Or.inl ⟨(u1 e).1, (u1 e).2, lk⟩
      · rw [if_neg (fun z => e (d3.mp z))] at lk
        refine Or.inr ⟨by rw [(u2 e).1]; decide, ?_, ?_⟩
        · rw [(u2 e).2, lk]
          exact z_claim h hi
        · rw [(u2 e).2]
          exact z_sdr2 (i := i) h hS rfl rfl rfl rfl rfl rfl rfl rfl rfl rfl rfl
    · have b1 : ¬ vX5_carries F G N Q i o (nI t) = 0 := fun z => b (Or.inl z)
      have b2 : zCan6 F G N Q i o := Classical.not_not.mp (fun z => b (Or.inr z))
      obtain ⟨u1, u2⟩ := s4 q b1 b2
      have lk := l3 b1 (can.mp b2)
      obtain ⟨r1, r2⟩ := z_begun h hS hi ho b1 b2
      refine Or.inr ⟨by rw [u1]; decide, ?_, ?_⟩
      · rw [u2, lk]; exact r1
      · rw [u2]; exact r2
end
