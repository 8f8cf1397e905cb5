section
theorem z_orb : ∀ w, w < 64 → ∀ j, j < 6 → (nI w ||| ((1 : Int32) <<< (nI j &&& 31))) = nI (w ||| 2 ^ j) ∧ w ||| 2 ^ j < 64 := by decide +kernel
theorem z_or0 : ∀ w, w < 64 → (nI w ||| (0 : Int32)) = nI w := by decide +kernel
theorem z_ort : ∀ w, w < 64 → ∀ j, j < 6 → ∀ i, i < 6 → Nat.testBit (w ||| 2 ^ j) i = (Nat.testBit w i || decide (i = j)) := by decide +kernel
theorem z_shb : ∀ w, w < 64 → ∀ j, j < 6 → (((nI w >>> (nI j &&& 31)) &&& (1 : Int32)) = 0 ↔ Nat.testBit w j = false) := by decide +kernel
theorem z_an : ∀ a, a < 64 → ∀ b, b < 64 → (nI a &&& (nI b ^^^ (-1 : Int32))) = nI (a &&& (63 - b)) := by decide +kernel
theorem z_ant : ∀ a, a < 64 → ∀ b, b < 64 → ∀ i, i < 6 → Nat.testBit (a &&& (63 - b)) i = (Nat.testBit a i && !Nat.testBit b i) := by decide +kernel
theorem z_anl {a b : Nat} (h : a < 64) : a &&& b < 64 := Nat.lt_of_le_of_lt Nat.and_le_left h
theorem z_ext : ∀ a, a < 64 → ∀ b, b < 64 → (∀ i, i < 6 → Nat.testBit a i = Nat.testBit b i) → a = b := by decide +kernel
theorem z_duty {t i : Nat} (ht : t ≤ 3001) (hi : i < 6) : ((nI t / (8 : Int32)) + nI i) - ((nI t / (8 : Int32)) + nI i) / (3 : Int32) * (3 : Int32) = 0 ↔ (t / 8 + i) % 3 = 0 := by
  have e : nI t / (8 : Int32) = nI (t / 8) := pk_div (d := 8) (by omega) (by decide) (by decide)
  rw [e, nI_add]
  have e2 : nI (t / 8 + i) - nI (t / 8 + i) / (3 : Int32) * (3 : Int32) = nI ((t / 8 + i) % 3) := pk_rem (d := 3) (by omega) (by decide) (by decide)
  rw [e2]
  exact nI_eq (b := 0) (by omega) (by omega)
theorem z_set {f : Nat → Int32 → Int32} {P : Nat → Prop} (hs : ∀ j, j < 6 → ∀ w, w < 64 → (P j → f j (nI w) = nI (w ||| 2 ^ j)) ∧ (¬ P j → f j (nI w) = nI w)) : ∃ w, w < 64 ∧ nf f (0 : Int32) 6 = nI w ∧ ∀ i, i < 6 → (Nat.testBit w i = true ↔ P i) := by
  have key := z_nfI (f := f) (a := (0 : Int32)) (fun j v => ∃ w, w < 64 ∧ v = nI w ∧ ∀ i, i < 6 → (Nat.testBit w i = true ↔ i < j ∧ P i)) 6 ⟨0, by decide, rfl, fun i _ => ⟨fun z => by rw [Nat.zero_testBit] at z; exact Bool.noConfusion z, fun z => absurd z.1 (by omega)⟩⟩ (by
    intro j hj v ⟨w, hw, e, h⟩
    rw [e]
    by_cases q : P j
    · refine ⟨w ||| 2 ^ j, (z_orb w hw j hj).2, (hs j hj w hw).1 q, fun i hi => ?_⟩
      rw [z_ort w hw j hj i hi, Bool.or_eq_true, h i hi, decide_eq_true_iff]
      constructor
      · rintro (⟨a, b⟩ | a)
        · exact ⟨by omega, b⟩
        · rw [a]; exact ⟨by omega, q⟩
      · rintro ⟨a, b⟩
        by_cases c : i = j
        · exact Or.inr c
        · exact Or.inl ⟨by omega, b⟩
    · refine ⟨w, hw, (hs j hj w hw).2 q, fun i hi => ?_⟩
      rw [h i hi]
      constructor
      · rintro ⟨a, b⟩; exact ⟨by omega, b⟩
      · rintro ⟨a, b⟩
        by_cases c : i = j
        · rw [c] at b; exact absurd b q
        · exact ⟨by omega, b⟩)
  obtain ⟨w, hw, e, h⟩ := key
  exact ⟨w, hw, e, fun i hi => ⟨fun z => ((h i hi).mp z).2, fun z => (h i hi).mpr ⟨hi, z⟩⟩⟩
def zFr (hr tg : Nat → Int32) (t n i : Nat) : Prop := ¬ (t / 8 + i) % 3 = 0 ∧ ∀ k, k < n → t < zH hr k + 3 → Nat.testBit (zH tg k) i = false
def zTg (tg : Nat → Int32) (n : Nat) : Prop := ∀ k, k < n → ∃ w, w < 64 ∧ tg k = nI w
theorem zTg_at {tg : Nat → Int32} {n k : Nat} (h : zTg tg n) (hk : k < n) : tg k = nI (zH tg k) ∧ zH tg k < 64 := by
  obtain ⟨x, hx, e⟩ := h k hk
  have q : zH tg k = x := by rw [zH, e, nI_clamp (by omega)]
  rw [q]; exact ⟨e, hx⟩
theorem z_tg7 {f : Nat → Int32} {g : Nat → Nat → Int32} {t n : Nat} (ht : t ≤ 3001) (hn : n ≤ 100) (h1 : f 1 = nI t) (h20 : f 20 = nI n) (hh : zHo (g 21) t n) (hg : zTg (g 24) n) : ∃ w, w < 64 ∧ vX7_tugsNow f g = nI w ∧ ∀ i, i < 6 → (Nat.testBit w i = true ↔ zFr (g 21) (g 24) t n i) := by
  rw [vX7_tugsNow]
  refine z_set (P := zFr (g 21) (g 24) t n) (fun j hj w hw => ?_)
  have inner : ∀ (b : Int32) (B : Prop), ((b = 1 ∧ B) ∨ (b = 0 ∧ ¬ B)) → (((nf (bX7_tugsNow_33 f g j (nI w)) b n) = 1 ∧ B ∧ ∀ k, k < n → t < zH (g 21) k + 3 → Nat.testBit (zH (g 24) k) j = false) ∨ ((nf (bX7_tugsNow_33 f g j (nI w)) b n) = 0 ∧ ¬ (B ∧ ∀ k, k < n → t < zH (g 21) k + 3 → Nat.testBit (zH (g 24) k) j = false))) := by
    intro b B hb
    refine z_nfI (f := bX7_tugsNow_33 f g j (nI w)) (a := b) (fun m v => (v = 1 ∧ B ∧ ∀ k, k < m → t < zH (g 21) k + 3 → Nat.testBit (zH (g 24) k) j = false) ∨ (v = 0 ∧ ¬ (B ∧ ∀ k, k < m → t < zH (g 21) k + 3 → Nat.testBit (zH (g 24) k) j = false))) n ?_ ?_
    · rcases hb with ⟨a, c⟩ | ⟨a, c⟩
      · exact Or.inl ⟨a, c, fun k hk => absurd hk (by omega)⟩
      · exact Or.inr ⟨a, fun z => c z.1⟩
    · intro m hm v hv
      obtain ⟨e1, e2⟩ := zHo_at hh ht hm
      obtain ⟨e3, e4⟩ := zTg_at hg hm
      have c3 : nI t - nI (zH (g 21) m) < (3 : Int32) ↔ t < zH (g 21) m + 3 := z_slt (c := 3) (by omega) e2 (by omega)
      rw [bX7_tugsNow_33]
      rw [nI_clamp (show m < 2 ^ 31 by omega), h1, e1, e3]
      simp only [c3, z_shb _ e4 j hj]
      rcases hv with ⟨a, c, d⟩ | ⟨a, c⟩
      · rw [a, if_neg (by decide)]
        by_cases q : Nat.testBit (zH (g 24) m) j = false
        · rw [if_pos q]
          refine Or.inl ⟨rfl, c, fun k hk => ?_⟩
          by_cases z : k = m
          · rw [z]; exact fun _ => q
          · exact d k (by omega)
        · rw [if_neg q]
          by_cases z : t < zH (g 21) m + 3
          · rw [if_pos z]
            exact Or.inr ⟨rfl, fun y => q (y.2 m (by omega) z)⟩
          · rw [if_neg z]
            refine Or.inl ⟨rfl, c, fun k hk => ?_⟩
            by_cases y : k = m
            · rw [y]; exact fun x => absurd x z
            · exact d k (by omega)
      · rw [a, if_pos rfl]
        exact Or.inr ⟨rfl, fun y => c ⟨y.1, fun k hk => y.2 k (by omega)⟩⟩
  have o1 := (z_orb w hw j hj).1
  have o0 := z_or0 w hw
  have dd := z_duty ht hj
  have fin : (zFr (g 21) (g 24) t n j → bX7_tugsNow_4 f g j (nI w) = nI (w ||| 2 ^ j)) ∧ (¬ zFr (g 21) (g 24) t n j → bX7_tugsNow_4 f g j (nI w) = nI w) := by
    rw [bX7_tugsNow_4, h1, h20, nI_clamp (show n < 2 ^ 31 by omega)]
    simp only [dd]
    by_cases q : (t / 8 + j) % 3 = 0
    · rw [if_pos q]
      have := inner 0 False (Or.inr ⟨rfl, fun z => z⟩)
      rcases this with ⟨a, c, d⟩ | ⟨a, c⟩
      · exact c.elim
      · rw [a, if_pos rfl]
        exact ⟨fun z => absurd q z.1, fun _ => o0⟩
    · rw [if_neg q]
      have := inner 1 True (Or.inl ⟨rfl, trivial⟩)
      rcases this with ⟨a, c, d⟩ | ⟨a, c⟩
      · rw [a, if_neg (by decide)]
        exact ⟨fun _ => o1, fun z => absurd ⟨q, d⟩ z⟩
      · rw [a, if_pos rfl]
        exact ⟨fun z => absurd ⟨trivial, z.2⟩ c, fun _ => o0⟩
  exact fin
theorem z_tg0 {F : Nat → Int32} {G : Nat → Nat → Int32} {N : Nat → Nat} {Q : Nat → Nat → Nat} {t n : Nat} (ht : t ≤ 3001) (hn : n ≤ 100) (hh : zHo (G 16) t n) (hg : zTg (G 19) n) : ∃ w, w < 64 ∧ vX0_readyTugs F G N Q (nI t) n = nI w ∧ ∀ i, i < 6 → (Nat.testBit w i = true ↔ zFr (G 16) (G 19) t n i) := by
  obtain ⟨d, hd, ed, hdi⟩ := z_set (f := bX0_tugsOnDuty_4 (nI t)) (P := fun i => ¬ (t / 8 + i) % 3 = 0) (fun j hj w hw => by
    rw [bX0_tugsOnDuty_4]
    simp only [z_duty ht hj]
    exact ⟨fun q => by rw [if_neg q]; exact (z_orb w hw j hj).1, fun q => by rw [if_pos (Decidable.not_not.mp q)]⟩)
  have key := z_bkI (f := bX0_readyTugs_20 F G N Q (nI t) n) (a := vX0_tugsOnDuty (nI t))
    (fun j v => ∃ w, w < 64 ∧ v = nI w ∧ ∀ i, i < 6 → (Nat.testBit w i = true ↔ ¬ (t / 8 + i) % 3 = 0 ∧ ∀ k, n - j ≤ k → k < n → t < zH (G 16) k + 3 → Nat.testBit (zH (G 19) k) i = false))
    (fun v => ∃ w, w < 64 ∧ v = nI w ∧ ∀ i, i < 6 → (Nat.testBit w i = true ↔ zFr (G 16) (G 19) t n i)) n
    ⟨d, hd, ed, fun i hi => by rw [hdi i hi]; exact ⟨fun z => ⟨z, fun k a b => absurd b (by omega)⟩, fun z => z.1⟩⟩ (by
      intro j hj v ⟨w, hw, e, h⟩
      obtain ⟨e1, e2⟩ := zHo_at hh ht (show n - 1 - j < n by omega)
      obtain ⟨e3, e4⟩ := zTg_at hg (show n - 1 - j < n by omega)
      have hx : n - j = (n - 1 - j) + 1 := by omega
      have hy : n - (j + 1) = n - 1 - j := by omega
      generalize hk : n - 1 - j = k at *
      have c3 : nI t - nI (zH (G 16) k) < (3 : Int32) ↔ t < zH (G 16) k + 3 := z_slt (c := 3) (by omega) e2 (by omega)
      rw [bX0_readyTugs_20, hk, e1]
      simp only [c3]
      rw [hx] at h
      rw [hy]
      by_cases b : t < zH (G 16) k + 3
      · rw [if_pos b, e, e3, z_an w hw _ e4]
        refine ⟨_, z_anl hw, rfl, fun i hi => ?_⟩
        rw [z_ant w hw _ e4 i hi, Bool.and_eq_true, h i hi, Bool.not_eq_true']
        constructor
        · rintro ⟨⟨p1, p2⟩, p3⟩
          refine ⟨p1, fun m hm hmn => ?_⟩
          by_cases q : m = k
          · rw [q]; exact fun _ => p3
          · exact p2 m (by omega) hmn
        · rintro ⟨p1, p2⟩
          exact ⟨⟨p1, fun m hm hmn => p2 m (by omega) hmn⟩, p2 k (Nat.le_refl _) (by omega) b⟩
      · rw [if_neg b]
        have old : ∀ i, i < k + 1 → ¬ t < zH (G 16) i + 3 := fun i hi => by
          have := hh.2 i k (by omega) (by omega)
          omega
        refine ⟨w, hw, e, fun i hi => ?_⟩
        rw [h i hi, zFr]
        constructor
        · rintro ⟨p1, p2⟩
          refine ⟨p1, fun m hm hmt => ?_⟩
          by_cases q : m < k + 1
          · exact absurd hmt (old m q)
          · exact p2 m (by omega) hm hmt
        · rintro ⟨p1, p2⟩
          exact ⟨p1, fun m _ hmn hmt => p2 m hmn hmt⟩)
  rw [vX0_readyTugs]
  refine z_bkE (T := fun z => ∃ w, w < 64 ∧ z = nI w ∧ ∀ i, i < 6 → (Nat.testBit w i = true ↔ zFr (G 16) (G 19) t n i)) key ?_ ?_
  · intro v ⟨w, hw, e, h⟩
    refine ⟨w, hw, e, fun i hi => ?_⟩
    rw [h i hi, zFr]
    exact ⟨fun z => ⟨z.1, fun k hk => z.2 k (by omega) hk⟩, fun z => ⟨z.1, fun k _ hk => z.2 k hk⟩⟩
  · intro v hv; exact hv
theorem zFr_congr {hr hr' tg tg' : Nat → Int32} {t n i : Nat} (h : zAg n hr hr') (h2 : zAg n tg tg') : zFr hr tg t n i ↔ zFr hr' tg' t n i := by
  rw [zFr, zFr]
  constructor
  · rintro ⟨a, b⟩
    exact ⟨a, fun k hk => by have := b k hk; rw [zH, zH, h k hk, h2 k hk] at this; exact this⟩
  · rintro ⟨a, b⟩
    exact ⟨a, fun k hk => by have := b k hk; rw [zH, zH, ← h k hk, ← h2 k hk] at this; exact this⟩
theorem z_tgE {F : Nat → Int32} {G : Nat → Nat → Int32} {N : Nat → Nat} {Q : Nat → Nat → Nat} {f : Nat → Int32} {g : Nat → Nat → Int32} {t n : Nat} (ht : t ≤ 3001) (hn : n ≤ 100) (hh : zHo (G 16) t n) (hg : zTg (G 19) n) (h1 : f 1 = nI t) (h20 : f 20 = nI n) (a1 : zAg n (G 16) (g 21)) (a2 : zAg n (G 19) (g 24)) : ∃ w, w < 64 ∧ vX0_readyTugs F G N Q (nI t) n = nI w ∧ vX7_tugsNow f g = nI w := by
  obtain ⟨w, hw, e, h⟩ := z_tg0 (F := F) (N := N) (Q := Q) ht hn hh hg
  obtain ⟨v, hv, e', h'⟩ := z_tg7 (f := f) (g := g) ht hn h1 h20 (zHo_congr a1 hh) (fun k hk => by rw [← a2 k hk]; exact hg k hk)
  refine ⟨w, hw, e, ?_⟩
  rw [e']
  congr 1
  refine z_ext v hv w hw (fun i hi => ?_)
  have := (h i hi).trans ((zFr_congr a1 a2).trans (h' i hi).symm)
  cases p : Nat.testBit w i <;> cases q : Nat.testBit v i <;> simp_all
theorem z_low1 : ∀ r, r < 64 → ∀ k, k < 4 → (vX7_many (nI r) < nI (k + 1) → vX6_lowestOf (nI r) (nI (k + 1)) = 0) := by decide +kernel
theorem z_low2 : ∀ r, r < 64 → ∀ k, k < 4 → (¬ vX7_many (nI r) < nI (k + 1) → vX6_lowestOf (nI r) (nI (k + 1)) = vX7_lowest (nI r) (nI (k + 1))) := by decide +kernel
theorem z_low3 : ∀ r, r < 64 → ∀ k, k < 4 → (¬ vX7_many (nI r) < nI (k + 1) → ¬ vX6_lowestOf (nI r) (nI (k + 1)) = 0) := by decide +kernel
theorem z_low4 : ∀ r, r < 64 → ∀ k, k < 4 → nI (vX6_lowestOf (nI r) (nI (k + 1))).toNatClampNeg = vX6_lowestOf (nI r) (nI (k + 1)) := by decide +kernel
theorem z_low5 : ∀ r, r < 64 → ∀ k, k < 4 → (vX6_lowestOf (nI r) (nI (k + 1))).toNatClampNeg < 64 := by decide +kernel
theorem z_low6 : ∀ r, r < 64 → ∀ k, k < 4 → (vX6_lowestOf (nI r) (nI (k + 1)) &&& (nI r ^^^ (-1 : Int32))) = 0 := by decide +kernel
end
