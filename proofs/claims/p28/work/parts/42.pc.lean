section
def zW (g0 g1 g2 r2 r3 r4 : Nat → Int32) : Prop := zAg 12 g0 r2 ∧ zAg 3101 g1 r3 ∧ zAg 6 g2 r4
theorem z_depth {F : Nat → Int32} {G : Nat → Nat → Int32} {N : Nat → Nat} {Q : Nat → Nat → Nat} {f : Nat → Int32} {g : Nat → Nat → Int32} (h : zW (G 0) (G 1) (G 2) (g 2) (g 3) (g 4)) {a : Int32} (ha : vp_in a 3101) : vX5_depthAt F G N Q a = vX7_depthOf f g a := by
  rw [vX5_depthAt, vX7_depthOf, h.1 _ (vp_cl (vp_rem12 ha (by decide))), h.2.1 _ (vp_cl ha)]
theorem z_car {F : Nat → Int32} {G : Nat → Nat → Int32} {N : Nat → Nat} {Q : Nat → Nat → Nat} {f : Nat → Int32} {g : Nat → Nat → Int32} (h : zW (G 0) (G 1) (G 2) (g 2) (g 3) (g 4)) {i t : Nat} (hi : i < 2 ^ 31) (ht : t ≤ 3000) (h7 : G 7 i = g 7 i) (h9 : G 9 i = g 9 i) (h10 : G 10 i = g 10 i) (hb : vp_in (G 9 i) 6) : (G 10 i = 0 → vX5_carries F G N Q i (0 : Int32) (nI t) = vX7_floats f g (nI i) (nI t)) ∧ (G 10 i = 2 → vX5_carries F G N Q i (1 : Int32) (nI t) = vX7_floats f g (nI i) (nI t)) := by
  have d0 : vX5_depthAt F G N Q (nI t) = vX7_depthOf f g (nI t) := z_depth h (vp_in_nI (by omega) (by decide))
  have d1 : vX5_depthAt F G N Q (nI t + (1 : Int32)) = vX7_depthOf f g (nI t + (1 : Int32)) := z_depth h (by rw [nI_1]; exact vp_in_nI (by omega) (by decide))
  have b1 : G 2 (G 9 i).toNatClampNeg = g 4 (g 9 i).toNatClampNeg := by rw [← h9]; exact h.2.2 _ (vp_cl hb)
  constructor
  · intro e
    rw [vX5_carries, vX7_floats, nI_clamp hi, if_pos (rfl : (0 : Int32) = 0), if_pos (h10.symm.trans e), d0, d1, b1, h7]
  · intro e
    have e2 : g 10 i = 2 := h10.symm.trans e
    have e3 : ¬ g 10 i = 0 := by rw [e2]; decide
    rw [vX5_carries, vX7_floats, nI_clamp hi, if_neg (show ¬ (1 : Int32) = 0 by decide), if_neg e3, if_pos e2, d0, d1, b1, h7]
    by_cases q1 : vX7_depthOf f g (nI t + (1 : Int32)) + (30 : Int32) < g 7 i + (5 : Int32)
    · rw [if_pos q1, if_pos q1]
      split <;> rfl
    · rw [if_neg q1, if_neg q1]
theorem z_flo0 {f : Nat → Int32} {g : Nat → Nat → Int32} {i : Nat} (hi : i < 2 ^ 31) {a : Int32} (h : ¬ g 10 i = 0) (h2 : ¬ g 10 i = 2) : vX7_floats f g (nI i) a = 0 := by
  rw [vX7_floats, nI_clamp hi, if_neg h, if_neg h2]
def zAh (c h : Nat → Int32) (i k : Nat) : Prop := (c k).toInt < (c i).toInt ∨ ((c i).toInt = (c k).toInt ∧ ((h i).toInt < (h k).toInt ∨ ((h i).toInt = (h k).toInt ∧ i < k)))
theorem zAh_irr {c h : Nat → Int32} {i : Nat} : ¬ zAh c h i i := by unfold zAh; omega
theorem zAh_as {c h : Nat → Int32} {i k : Nat} (a : zAh c h i k) : ¬ zAh c h k i := by unfold zAh at *; omega
theorem zAh_tr {c h : Nat → Int32} {i k m : Nat} (a : zAh c h i k) (b : zAh c h k m) : zAh c h i m := by unfold zAh at *; omega
theorem zAh_tot {c h : Nat → Int32} {i k : Nat} (a : i ≠ k) : zAh c h i k ∨ zAh c h k i := by unfold zAh; omega
theorem zAh_congr {c h c' h' : Nat → Int32} {i k : Nat} (a1 : c i = c' i) (a2 : c k = c' k) (b1 : h i = h' i) (b2 : h k = h' k) : zAh c h i k ↔ zAh c' h' i k := by rw [zAh, zAh, a1, a2, b1, b2]
theorem z_ne {x y : Int32} (h : ¬ x = y) : ¬ x.toInt = y.toInt := fun z => h (Int32.toInt_inj.mp z)
theorem z_ah6 {F : Nat → Int32} {G : Nat → Nat → Int32} {N : Nat → Nat} {Q : Nat → Nat → Nat} {i k : Nat} (hi : i < 2 ^ 31) (hk : k < 2 ^ 31) (ei : G 5 i = nI i) (ek : G 5 k = nI k) : vX4_isAheadOf F G N Q i k = 0 ↔ ¬ zAh (G 8) (G 12) i k := by
  rw [vX4_isAheadOf, zAh, ei, ek]
  simp only [nI_leI hk hi]
  by_cases a : G 8 i = G 8 k
  · rw [if_pos a, a]
    by_cases b : G 12 i = G 12 k
    · rw [if_pos b, b]
      by_cases c : k ≤ i
      · rw [if_pos c]; exact ⟨fun _ z => by omega, fun _ => rfl⟩
      · rw [if_neg c]; exact ⟨fun z => absurd z (by decide), fun z => absurd (Or.inr ⟨rfl, Or.inr ⟨rfl, by omega⟩⟩) z⟩
    · rw [if_neg b]
      have nb := z_ne b
      by_cases c : G 12 k ≤ G 12 i
      · rw [if_pos c]
        rw [Int32.le_iff_toInt_le] at c
        exact ⟨fun _ z => by omega, fun _ => rfl⟩
      · rw [if_neg c]
        rw [Int32.le_iff_toInt_le] at c
        exact ⟨fun z => absurd z (by decide), fun z => absurd (Or.inr ⟨rfl, Or.inl (by omega)⟩) z⟩
  · rw [if_neg a]
    have na := z_ne a
    by_cases c : G 8 i ≤ G 8 k
    · rw [if_pos c]
      rw [Int32.le_iff_toInt_le] at c
      exact ⟨fun _ z => by omega, fun _ => rfl⟩
    · rw [if_neg c]
      rw [Int32.le_iff_toInt_le] at c
      exact ⟨fun z => absurd z (by decide), fun z => absurd (Or.inl (by omega)) z⟩
theorem z_ah7 {f : Nat → Int32} {g : Nat → Nat → Int32} {i k : Nat} (hi : i < 2 ^ 31) (hk : k < 2 ^ 31) : vX7_isAhead f g (nI i) (nI k) = 0 ↔ ¬ zAh (g 8) (g 11) i k := by
  rw [vX7_isAhead, zAh, nI_clamp hi, nI_clamp hk]
  simp only [nI_leI hk hi]
  by_cases a : g 8 i = g 8 k
  · rw [if_pos a, a]
    by_cases b : g 11 i < g 11 k
    · rw [if_pos b]
      rw [Int32.lt_iff_toInt_lt] at b
      exact ⟨fun z => absurd z (by decide), fun z => absurd (Or.inr ⟨rfl, Or.inl b⟩) z⟩
    · rw [if_neg b]
      rw [Int32.lt_iff_toInt_lt] at b
      by_cases d : g 11 i = g 11 k
      · rw [if_pos d, d]
        by_cases c : k ≤ i
        · rw [if_pos c]; exact ⟨fun _ z => by omega, fun _ => rfl⟩
        · rw [if_neg c]; exact ⟨fun z => absurd z (by decide), fun z => absurd (Or.inr ⟨rfl, Or.inr ⟨rfl, by omega⟩⟩) z⟩
      · rw [if_neg d]
        have nd := z_ne d
        exact ⟨fun _ z => by omega, fun _ => rfl⟩
  · rw [if_neg a]
    have na := z_ne a
    by_cases c : g 8 i ≤ g 8 k
    · rw [if_pos c]
      rw [Int32.le_iff_toInt_le] at c
      exact ⟨fun _ z => by omega, fun _ => rfl⟩
    · rw [if_neg c]
      rw [Int32.le_iff_toInt_le] at c
      exact ⟨fun z => absurd z (by decide), fun z => absurd (Or.inl (by omega)) z⟩
theorem z_first {F : Nat → Int32} {G : Nat → Nat → Int32} {N : Nat → Nat} {Q : Nat → Nat → Nat} {f : Nat → Int32} {g : Nat → Nat → Int32} {rd : Int32 → Int32} (h6 : ∀ p, vX0_pilotIsReady F G N Q p (F 0) (N 1) = rd p) (h7 : ∀ p, vX7_isPilotReady f g p = rd p) (hr : zAg 6 (G 3) (g 16)) : (vX6_firstReadyPilot F G N Q = -1 ∧ vX7_firstReady f g = -1) ∨ ∃ p, p < 6 ∧ vX7_firstReady f g = nI p ∧ vX6_firstReadyPilot F G N Q = G 3 p ∧ ¬ rd (G 3 p) = 0 := by
  have k6 := z_bkI (f := bX6_firstReadyPilot_2 F G N Q) (a := ()) (fun j _ => ∀ i, i < j → rd (G 3 i) = 0) (fun v => ∃ p, p < 6 ∧ v = G 3 p ∧ (¬ rd (G 3 p) = 0) ∧ ∀ i, i < p → rd (G 3 i) = 0) 6 (fun i hi => absurd hi (by omega)) (by
    intro j hj v h
    rw [bX6_firstReadyPilot_2, nI_clamp (by omega), h6]
    by_cases q : rd (G 3 j) = 0
    · rw [if_pos q]
      intro i hi
      by_cases e : i = j
      · rw [e]; exact q
      · exact h i (by omega)
    · rw [if_neg q]
      exact ⟨j, hj, rfl, q, h⟩)
  have k7 := z_nfI (f := bX7_firstReady_4 f g) (a := (-1 : Int32)) (fun j v => (v = -1 ∧ ∀ i, 6 - j ≤ i → i < 6 → rd (G 3 i) = 0) ∨ ∃ p, 6 - j ≤ p ∧ p < 6 ∧ v = nI p ∧ (¬ rd (G 3 p) = 0) ∧ ∀ i, 6 - j ≤ i → i < p → rd (G 3 i) = 0) 6 (Or.inl ⟨rfl, fun i a b => absurd b (by omega)⟩) (by
    intro j hj v h
    have e5 : ((5 : Int32) - nI j).toNatClampNeg = 5 - j := by rw [dn_eq hj, nI_clamp (by omega)]
    rw [bX7_firstReady_4, e5, ← hr (5 - j) (by omega), h7]
    by_cases q : rd (G 3 (5 - j)) = 0
    · rw [if_pos q]
      rcases h with ⟨a, b⟩ | ⟨p, a, b, c, d, e⟩
      · refine Or.inl ⟨a, fun i hi hi6 => ?_⟩
        by_cases z : i = 5 - j
        · rw [z]; exact q
        · exact b i (by omega) hi6
      · refine Or.inr ⟨p, by omega, b, c, d, fun i hi hip => ?_⟩
        by_cases z : i = 5 - j
        · rw [z]; exact q
        · exact e i (by omega) hip
    · rw [if_neg q]
      exact Or.inr ⟨5 - j, by omega, by omega, dn_eq hj, q, fun i hi hip => absurd hip (by omega)⟩)
  rw [vX6_firstReadyPilot, vX7_firstReady]
  generalize nf (bX7_firstReady_4 f g) (-1 : Int32) 6 = w at k7
  refine z_bkE (T := fun z => (z = -1 ∧ w = -1) ∨ ∃ p, p < 6 ∧ w = nI p ∧ z = G 3 p ∧ ¬ rd (G 3 p) = 0) k6 ?_ ?_
  · intro _ h
    rcases k7 with ⟨a, b⟩ | ⟨p, a, b, c, d, e⟩
    · exact Or.inl ⟨rfl, a⟩
    · exact absurd (h p b) d
  · intro v ⟨p, hp, e, q, h⟩
    rcases k7 with ⟨a, b⟩ | ⟨p', a, b, c, d, e'⟩
    · exact absurd (b p (by omega) hp) q
    · have : p = p' := by
        rcases Nat.lt_trichotomy p p' with x | x | x
        · exact absurd (e' p (by omega) x) q
        · exact x
        · exact absurd (h p' x) d
      exact Or.inr ⟨p, hp, by rw [c, this], e, q⟩
theorem z_free6 {F : Nat → Int32} {G : Nat → Nat → Int32} {N : Nat → Nat} {Q : Nat → Nat → Nat} {b : Int32} : vX6_berthIsFreeNow F G N Q b = 0 ↔ ¬ ∀ j, j < N 0 → G 9 j = b → G 10 j = 0 ∨ G 10 j = 4 := by
  have k6 := z_bkI (f := bX6_berthIsFreeNow_2 F G N Q b) (a := ()) (fun j _ => ∀ i, i < j → G 9 i = b → G 10 i = 0 ∨ G 10 i = 4) (fun _ => ¬ ∀ j, j < N 0 → G 9 j = b → G 10 j = 0 ∨ G 10 j = 4) (N 0) (fun i hi => absurd hi (by omega)) (by
    intro j hj v h
    have nx : ((G 9 j = b) → (G 10 j = 0 ∨ G 10 j = 4)) → ∀ i, i < j + 1 → G 9 i = b → G 10 i = 0 ∨ G 10 i = 4 := by
      intro q i hi
      by_cases e : i = j
      · rw [e]; exact q
      · exact h i (by omega)
    rw [bX6_berthIsFreeNow_2]
    by_cases a : G 9 j = b
    · rw [if_pos a]
      by_cases c : G 10 j = 0
      · rw [if_pos c]; exact nx (fun _ => Or.inl c)
      · rw [if_neg c]
        by_cases d : G 10 j = 4
        · rw [if_pos d]; exact nx (fun _ => Or.inr d)
        · rw [if_neg d]
          exact fun z => (z j hj a).elim c d
    · rw [if_neg a]; exact nx (fun z => absurd z a))
  rw [vX6_berthIsFreeNow]
  refine z_bkE (T := fun z => z = (0 : Int32) ↔ ¬ ∀ j, j < N 0 → G 9 j = b → G 10 j = 0 ∨ G 10 j = 4) k6 ?_ ?_
  · intro _ h
    exact ⟨fun z => absurd z (by decide), fun z => absurd h z⟩
  · intro _ h
    exact ⟨fun _ => h, fun _ => rfl⟩
theorem z_free7 {f : Nat → Int32} {g : Nat → Nat → Int32} {n : Nat} (hn : n ≤ 30) (h5 : f 5 = nI n) {b : Int32} : vX7_isFree f g b = 0 ↔ ¬ ∀ j, j < n → g 9 j = b → g 10 j = 0 ∨ g 10 j = 4 := by
  have key := z_nfI (f := bX7_isFree_4 f g b) (a := (1 : Int32)) (fun j v => (v = 1 ∧ ∀ i, i < j → g 9 i = b → g 10 i = 0 ∨ g 10 i = 4) ∨ (v = 0 ∧ ¬ ∀ i, i < j → g 9 i = b → g 10 i = 0 ∨ g 10 i = 4)) n (Or.inl ⟨rfl, fun i hi => absurd hi (by omega)⟩) (by
    intro j hj v h
    rw [bX7_isFree_4, nI_clamp (by omega)]
    rcases h with ⟨a, h⟩ | ⟨a, h⟩
    · rw [a, if_neg (by decide)]
      have nx : ((g 9 j = b) → (g 10 j = 0 ∨ g 10 j = 4)) → ∀ i, i < j + 1 → g 9 i = b → g 10 i = 0 ∨ g 10 i = 4 := by
        intro q i hi
        by_cases e : i = j
        · rw [e]; exact q
        · exact h i (by omega)
      by_cases a : g 9 j = b
      · rw [if_pos a]
        by_cases c : g 10 j = 0
        · rw [if_pos c]; exact Or.inl ⟨rfl, nx (fun _ => Or.inl c)⟩
        · rw [if_neg c]
          by_cases d : g 10 j = 4
          · rw [if_pos d]; exact Or.inl ⟨rfl, nx (fun _ => Or.inr d)⟩
          · rw [if_neg d]
            exact Or.inr ⟨rfl, fun z => (z j (by omega) a).elim c d⟩
      · rw [if_neg a]; exact Or.inl ⟨rfl, nx (fun z => absurd z a)⟩
    · rw [a, if_pos rfl]
      exact Or.inr ⟨rfl, fun z => h fun i hi => z i (by omega)⟩)
  rw [vX7_isFree, h5, nI_clamp (by omega)]
  rcases key with ⟨a, h⟩ | ⟨a, h⟩
  · rw [a]; exact ⟨fun z => absurd z (by decide), fun z => absurd h z⟩
  · rw [a]; exact ⟨fun _ => h, fun _ => rfl⟩
theorem z_used6 {F : Nat → Int32} {G : Nat → Nat → Int32} {N : Nat → Nat} {Q : Nat → Nat → Nat} {b : Int32} : vX0_hasMoveAt F G N Q b = 0 ↔ ∀ j, j < N 1 → ¬ G 9 (Q 1 j) = b := by
  have k6 := z_bkI (f := bX0_hasMoveAt_2 F G N Q b) (a := ()) (fun j _ => ∀ i, i < j → ¬ G 9 (Q 1 i) = b) (fun _ => ¬ ∀ j, j < N 1 → ¬ G 9 (Q 1 j) = b) (N 1) (fun i hi => absurd hi (by omega)) (by
    intro j hj v h
    rw [bX0_hasMoveAt_2]
    by_cases a : G 9 (Q 1 j) = b
    · rw [if_pos a]; exact fun z => z j hj a
    · rw [if_neg a]
      intro i hi
      by_cases e : i = j
      · rw [e]; exact a
      · exact h i (by omega))
  rw [vX0_hasMoveAt]
  refine z_bkE (T := fun z => z = (0 : Int32) ↔ ∀ j, j < N 1 → ¬ G 9 (Q 1 j) = b) k6 ?_ ?_
  · intro _ h
    exact ⟨fun _ => h, fun _ => rfl⟩
  · intro _ h
    exact ⟨fun z => absurd z (by decide), fun z => absurd z h⟩
theorem z_used7 {f : Nat → Int32} {g : Nat → Nat → Int32} {n : Nat} (hn : n ≤ 100) (h20 : f 20 = nI n) {b : Int32} : vX7_wasUsed f g b = 0 ↔ ∀ j, j < n → ¬ g 9 (g 22 j).toNatClampNeg = b := by
  have key := z_nfI (f := bX7_wasUsed_4 f g b) (a := (0 : Int32)) (fun j v => (v = 0 ∧ ∀ i, i < j → ¬ g 9 (g 22 i).toNatClampNeg = b) ∨ (v = 1 ∧ ¬ ∀ i, i < j → ¬ g 9 (g 22 i).toNatClampNeg = b)) n (Or.inl ⟨rfl, fun i hi => absurd hi (by omega)⟩) (by
    intro j hj v h
    rw [bX7_wasUsed_4, nI_clamp (by omega)]
    rcases h with ⟨a, h⟩ | ⟨a, h⟩
    · rw [a, if_pos rfl]
      by_cases c : g 9 (g 22 j).toNatClampNeg = b
      · rw [if_pos c]; exact Or.inr ⟨rfl, fun z => z j (by omega) c⟩
      · rw [if_neg c]
        refine Or.inl ⟨rfl, fun i hi => ?_⟩
        by_cases e : i = j
        · rw [e]; exact c
        · exact h i (by omega)
    · rw [a, if_neg (by decide)]
      exact Or.inr ⟨rfl, fun z => h fun i hi => z i (by omega)⟩)
  rw [vX7_wasUsed, h20, nI_clamp (by omega)]
  rcases key with ⟨a, h⟩ | ⟨a, h⟩
  · rw [a]; exact ⟨fun _ => h, fun _ => rfl⟩
  · rw [a]; exact ⟨fun z => absurd z (by decide), fun z => absurd z h⟩
end
