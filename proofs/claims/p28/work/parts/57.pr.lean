section
theorem z_insr {F : Nat → Int32} {G : Nat → Nat → Int32} {N : Nat → Nat} {Q : Nat → Nat → Nat} {i : Nat} (hi : i < N 0) (hn : N 0 ≤ 30) (h5 : ∀ j, j < N 0 → G 5 j = nI j) (hq : ∀ j, j < N 2 → Q 0 j < N 0) : ∃ r, r ≤ N 2 ∧ sX2_insert F G N Q i = (N 2 + 1, insG (Q 0) r i) ∧ (∀ j, j < r → zAh (G 8) (G 12) (Q 0 j) i) ∧ (r < N 2 → ¬ zAh (G 8) (G 12) (Q 0 r) i) := by
  have key := z_bkI (f := bX2_insert_2 F G N Q i) (a := ()) (fun k _ => ∀ j, j < k → zAh (G 8) (G 12) (Q 0 j) i) (fun r => r < N 2 ∧ (∀ j, j < r → zAh (G 8) (G 12) (Q 0 j) i) ∧ ¬ zAh (G 8) (G 12) (Q 0 r) i) (N 2) (fun j hj => absurd hj (by omega)) (by
    intro k hk v h
    have e := z_ah6 (F := F) (G := G) (N := N) (Q := Q) (i := Q 0 k) (k := i) (by have := hq k hk; omega) (by omega) (h5 _ (hq k hk)) (h5 _ hi)
    rw [bX2_insert_2]
    by_cases c : vX4_isAheadOf F G N Q (Q 0 k) i = 0
    · rw [if_pos c]
      exact ⟨hk, h, e.mp c⟩
    · rw [if_neg c]
      intro j hj
      by_cases d : j = k
      · rw [d]; exact Classical.byContradiction fun z => c (e.mpr z)
      · exact h j (by omega))
  rw [sX2_insert]
  refine z_bkE (T := fun z => ∃ r, r ≤ N 2 ∧ z = (N 2 + 1, insG (Q 0) r i) ∧ (∀ j, j < r → zAh (G 8) (G 12) (Q 0 j) i) ∧ (r < N 2 → ¬ zAh (G 8) (G 12) (Q 0 r) i)) key ?_ ?_
  · intro _ h
    exact ⟨N 2, Nat.le_refl _, rfl, h, fun z => absurd z (Nat.lt_irrefl _)⟩
  · rintro r ⟨h1, h2, h3⟩
    exact ⟨r, Nat.le_of_lt h1, rfl, h2, fun _ => h3⟩
theorem zf_order {F : Nat → Int32} {G : Nat → Nat → Int32} {N : Nat → Nat} {Q : Nat → Nat → Nat} {f : Nat → Int32} {g : Nat → Nat → Int32} (a : Int32) (b : Int32) (h : zI F G N Q f g) : zXl [(1, 1), (2, 2), (3, 3)] (eX6_order F G N Q a b) ((sX7_order f g a b).1 0) (vX6_order F G N Q a b = vX7_order f g a b) ∧ zI F (hu G 12 (sX6_order F G N Q a b).2.2) (hu N 2 (sX6_order F G N Q a b).1) (hu Q 0 (sX6_order F G N Q a b).2.1) (sX7_order f g a b).1 (sX7_order f g a b).2 := by
  have h0 := h
  obtain ⟨t, ⟨⟨ht, eF, f1, f18, f19, f5, f20⟩, hW, hP, hK, hE, hSt, hZ, hM, hO⟩, hS, hQ, hRI⟩ := h
  rw [eX6_order, sX7_order, vX6_order, vX7_order, sX6_order]
  have k0 := hK.1
  have hle := zQ_le hQ
  rw [eF, f1]
  rcases z_sh (F := F) (G := G) (Q := Q) (g := g) f5 hK.1 a with ⟨p, q, r⟩ | ⟨p, q, r⟩
  · rw [if_pos q, if_pos q, if_pos q, if_neg r, if_neg r]
    obtain ⟨i, hi, ei⟩ := vp_in_of p (by omega)
    have ec : a.toNatClampNeg = i := by rw [ei, nI_clamp (by omega)]
    rw [ec]
    have e10 := hE.1 i hi
    have e12 := hE.2.1 i hi
    rcases z_rg b (nI t + 1) 3000 with ⟨p2, q2, r2⟩ | ⟨p2, q2, r2⟩
    · rw [if_pos q2, if_pos q2, if_pos q2]
      simp only [if_neg r2]
      rw [vX4_canMove, vX4_hasOrder]
      have hx : ∃ x, x ≤ 3000 ∧ b = nI x := by
        have e1 : (nI t + 1).toInt = (t : Int) + 1 := by
          rw [nI_1, nI_toInt (by omega)]; omega
        have e2 : (3000 : Int32).toInt = 3000 := by decide
        obtain ⟨x, hx, ex⟩ := vp_in_of (x := b) (n := 3001) (vp_in_iff.mpr (by rw [e1, e2] at p2; omega)) (by decide)
        exact ⟨x, by omega, ex⟩
      obtain ⟨x, hx, ex⟩ := hx
      have ok : (G 10 i = 0 ∨ G 10 i = 2) → G 12 i = -1 → vX6_order F G N Q a b = vX7_ordered (hu f 0 (0 : Int32)) (hu g 11 (upd (g 11) i b)) ∧ zI F (hu G 12 (upd (G 12) i b)) (hu N 2 (sX2_insert F (hu G 12 (upd (G 12) i b)) N Q i).1) (hu Q 0 (sX2_insert F (hu G 12 (upd (G 12) i b)) N Q i).2) (hu f 0 (0 : Int32)) (hu g 11 (upd (g 11) i b)) ∧ nI (sX2_insert F (hu G 12 (upd (G 12) i b)) N Q i).1 = vX7_ordered (hu f 0 (0 : Int32)) (hu g 11 (upd (g 11) i b)) := by
        intro hst hor
        obtain ⟨r', hr', es, s1, s2⟩ := z_insr (F := F) (G := hu G 12 (upd (G 12) i b)) (N := N) (Q := Q) (i := i) hi hK.1 (fun j hj => (hK.2.1 j hj).1) (fun j hj => (hQ.1 j hj).1)
        have bx : ¬ b = -1 := by rw [ex]; exact z_m1 (by omega)
        have nq := z_insq hQ hi hor bx hr' s1 s2
        have ag : zAg (N 0) (upd (G 12) i b) (upd (g 11) i b) := zAg_up hE.2.1 i rfl
        have cnt : nI (sX2_insert F (hu G 12 (upd (G 12) i b)) N Q i).1 = vX7_ordered (hu f 0 (0 : Int32)) (hu g 11 (upd (g 11) i b)) := by
          rw [z_ord7 (f := hu f 0 (0 : Int32)) (g := hu g 11 (upd (g 11) i b)) hK.1 f5, es]
          show nI (N 2 + 1) = _
          rw [← zQ_cnt nq]
          congr 1
          exact zC_congr fun j hj => by rw [ag j hj]; rfl
        refine ⟨?_, ⟨t, ⟨⟨ht, eF, f1, f18, f19, f5, f20⟩, hW, hP, hK, ⟨hE.1, ag, hE.2.2⟩, fun j hj => ?_, hZ, hM, hO⟩, ?_, ?_, hRI⟩, cnt⟩
        · rw [vX6_order, if_pos q, eF, if_pos q2, ec, vX4_canMove, vX4_hasOrder, if_pos hor]
          rcases hst with z | z
          · rw [if_pos z, if_neg (show ¬ (1 : Int32) = 0 by decide), if_pos (rfl : (0 : Int32) = 0)]; exact cnt
          · rw [if_neg (show ¬ G 10 i = 0 by rw [z]; decide), if_pos z, if_neg (show ¬ (1 : Int32) = 0 by decide), if_pos (rfl : (0 : Int32) = 0)]; exact cnt
        · show _ ∧ _ ∧ (upd (G 12) i b j = -1 ∨ _ ∧ ∃ h, h ≤ 3000 ∧ upd (G 12) i b j = nI h)
          by_cases c : j = i
          · rw [c, up_s]
            exact ⟨(hSt i hi).1, (hSt i hi).2.1, Or.inr ⟨hst, x, hx, ex⟩⟩
          · rw [up_n c]; exact hSt j hj
        · obtain ⟨t', g1, g2, g3, g4⟩ := h0
          exact z_sdr2 (i := 0) g1 g2 rfl rfl rfl rfl rfl rfl rfl rfl rfl rfl rfl
        · rw [es]; exact nq
      by_cases c0 : G 10 i = 0
      · have c7 : g 10 i = 0 := e10.symm.trans c0
        rw [if_pos c0, if_pos c7, if_pos c7, if_neg (show ¬ (1 : Int32) = 0 by decide), if_neg (show ¬ (1 : Int32) = 0 by decide), if_neg (show ¬ (1 : Int32) = 0 by decide)]
        by_cases d : G 12 i = -1
        · have d7 : g 11 i = -1 := e12.symm.trans d
          rw [if_pos d, if_pos d7, if_pos d7, if_pos (rfl : (0 : Int32) = 0), if_pos (rfl : (0 : Int32) = 0), if_pos (rfl : (0 : Int32) = 0)]
          obtain ⟨o1, o2, o3⟩ := ok (Or.inl c0) d
          exact ⟨Or.inl ⟨rfl, rfl, o3⟩, o2⟩
        · have d7 : ¬ g 11 i = -1 := fun z => d (e12.trans z)
          rw [if_neg d, if_neg d7, if_neg d7, if_neg (show ¬ (1 : Int32) = 0 by decide), if_neg (show ¬ (1 : Int32) = 0 by decide), if_neg (show ¬ (1 : Int32) = 0 by decide)]
          simp only [z_huid]
          exact ⟨Or.inr (List.mem_cons_of_mem _ (List.mem_cons_of_mem _ (List.mem_cons_self ..))), zI_f h0 3⟩
      · have c7 : ¬ g 10 i = 0 := fun z => c0 (e10.trans z)
        rw [if_neg c0, if_neg c7, if_neg c7]
        by_cases c2 : G 10 i = 2
        · have c72 : g 10 i = 2 := e10.symm.trans c2
          rw [if_pos c2, if_pos c72, if_pos c72, if_neg (show ¬ (1 : Int32) = 0 by decide), if_neg (show ¬ (1 : Int32) = 0 by decide), if_neg (show ¬ (1 : Int32) = 0 by decide)]
          by_cases d : G 12 i = -1
          · have d7 : g 11 i = -1 := e12.symm.trans d
            rw [if_pos d, if_pos d7, if_pos d7, if_pos (rfl : (0 : Int32) = 0), if_pos (rfl : (0 : Int32) = 0), if_pos (rfl : (0 : Int32) = 0)]
            obtain ⟨o1, o2, o3⟩ := ok (Or.inr c2) d
            exact ⟨Or.inl ⟨rfl, rfl, o3⟩, o2⟩
          · have d7 : ¬ g 11 i = -1 := fun z => d (e12.trans z)
            rw [if_neg d, if_neg d7, if_neg d7, if_neg (show ¬ (1 : Int32) = 0 by decide), if_neg (show ¬ (1 : Int32) = 0 by decide), if_neg (show ¬ (1 : Int32) = 0 by decide)]
            simp only [z_huid]
            exact ⟨Or.inr (List.mem_cons_of_mem _ (List.mem_cons_of_mem _ (List.mem_cons_self ..))), zI_f h0 3⟩
        · have c72 : ¬ g 10 i = 2 := fun z => c2 (e10.trans z)
          rw [if_neg c2, if_neg c72, if_neg c72, if_pos (rfl : (0 : Int32) = 0), if_pos (rfl : (0 : Int32) = 0), if_pos (rfl : (0 : Int32) = 0)]
          simp only [z_huid]
          exact ⟨Or.inr (List.mem_cons_of_mem _ (List.mem_cons_of_mem _ (List.mem_cons_self ..))), zI_f h0 3⟩
    · rw [q2, if_neg (show ¬ (2 : Nat) = 0 by decide), if_neg (show ¬ (2 : Nat) = 0 by decide), if_neg (show ¬ (2 : Nat) = 0 by decide)]
      simp only [if_pos r2, ite_self]
      simp only [z_huid]
      exact ⟨Or.inr (List.mem_cons_of_mem _ (List.mem_cons_self ..)), zI_f h0 2⟩
  · rw [q, if_neg (show ¬ (1 : Nat) = 0 by decide), if_neg (show ¬ (1 : Nat) = 0 by decide), if_neg (show ¬ (1 : Nat) = 0 by decide), if_pos r, if_pos r]
    simp only [z_huid]
    exact ⟨Or.inr (List.mem_cons_self ..), zI_f h0 1⟩
end
