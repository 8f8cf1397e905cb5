section
def zAg (n : Nat) (a b : Nat → Int32) : Prop := ∀ j, j < n → a j = b j
theorem zAg_up {n : Nat} {a b : Nat → Int32} (h : zAg n a b) (i : Nat) {x y : Int32} (e : x = y) : zAg n (upd a i x) (upd b i y) := by
  intro j hj
  by_cases q : j = i
  · rw [q, up_s, up_s]; exact e
  · rw [up_n q, up_n q]; exact h j hj
theorem z_nfC {α : Type} {f f' : Nat → α → α} {a : α} : ∀ {n : Nat}, (∀ j, j < n → ∀ v, f j v = f' j v) → nf f a n = nf f' a n := by
  intro n
  induction n with
  | zero => intro _; rfl
  | succ n ih =>
    intro h
    show f n (nf f a n) = f' n (nf f' a n)
    rw [ih (fun j hj => h j (by omega)), h n (by omega)]
theorem z_nfI {α : Type} {f : Nat → α → α} {a : α} (P : Nat → α → Prop) (n : Nat) (h0 : P 0 a) (hs : ∀ j, j < n → ∀ v, P j v → P (j + 1) (f j v)) : P n (nf f a n) := by
  induction n with
  | zero => exact h0
  | succ n ih => exact hs n (by omega) _ (ih (fun j hj => hs j (by omega)))
theorem z_nfR {α β : Type} {f : Nat → α → α} {g : Nat → β → β} {a : α} {b : β} (R : Nat → α → β → Prop) (n : Nat) (h0 : R 0 a b) (hs : ∀ j, j < n → ∀ v w, R j v w → R (j + 1) (f j v) (g j w)) : R n (nf f a n) (nf g b n) := by
  induction n with
  | zero => exact h0
  | succ n ih => exact hs n (by omega) _ _ (ih (fun j hj => hs j (by omega)))
theorem z_bkI {α ρ : Type} {f : Nat → α → α ⊕ ρ} {a : α} (P : Nat → α → Prop) (R : ρ → Prop) (n : Nat) (h0 : P 0 a) (hs : ∀ j, j < n → ∀ v, P j v → bkK (P (j + 1)) R (f j v)) : bkK (P n) R (bk f a n) := by
  induction n with
  | zero => exact h0
  | succ n ih =>
    have h := ih (fun j hj => hs j (by omega))
    show bkK _ _ (match bk f a n with | .inl b => f n b | .inr r => .inr r)
    cases e : bk f a n with
    | inl v => rw [e] at h; exact hs n (by omega) v h
    | inr r => rw [e] at h; exact h
theorem z_bkE {α ρ β : Type} {x : α ⊕ ρ} {P : α → Prop} {R : ρ → Prop} (h : bkK P R x) {f : α → β} {g : ρ → β} {T : β → Prop} (h1 : ∀ a, P a → T (f a)) (h2 : ∀ r, R r → T (g r)) : T (bkE x f g) := by
  cases x with
  | inl a => exact h1 a h
  | inr r => exact h2 r h
def zC (p : Nat → Bool) : Nat → Nat
  | 0 => 0
  | n + 1 => zC p n + (if p n = true then 1 else 0)
theorem zC_t {p : Nat → Bool} {n : Nat} (h : p n = true) : zC p (n + 1) = zC p n + 1 := by rw [zC, if_pos h]
theorem zC_f {p : Nat → Bool} {n : Nat} (h : p n = false) : zC p (n + 1) = zC p n := by rw [zC, h]; rfl
theorem zC_congr {p q : Nat → Bool} {n : Nat} (h : ∀ j, j < n → p j = q j) : zC p n = zC q n := by
  induction n with
  | zero => rfl
  | succ n ih => rw [zC, zC, ih (fun j hj => h j (by omega)), h n (by omega)]
theorem zC_0 {p : Nat → Bool} {n : Nat} : zC p n = 0 ↔ ∀ j, j < n → p j = false := by
  induction n with
  | zero => exact ⟨fun _ j hj => absurd hj (by omega), fun _ => rfl⟩
  | succ n ih =>
    cases e : p n with
    | true =>
      rw [zC_t e]
      exact ⟨fun h => absurd h (by omega), fun h => absurd (h n (by omega)) (by rw [e]; decide)⟩
    | false =>
      rw [zC_f e, ih]
      constructor
      · intro h j hj
        by_cases q : j = n
        · rw [q]; exact e
        · exact h j (by omega)
      · intro h j hj
        exact h j (by omega)
theorem zC_le {p : Nat → Bool} {n : Nat} : zC p n ≤ n := by
  induction n with
  | zero => exact Nat.le_refl _
  | succ n ih => rw [zC]; split <;> omega
theorem zC_mono {p : Nat → Bool} {m n : Nat} (h : m ≤ n) : zC p m ≤ zC p n := by
  induction n with
  | zero => rw [show m = 0 by omega]; exact Nat.le_refl _
  | succ n ih =>
    by_cases q : m = n + 1
    · rw [q]; exact Nat.le_refl _
    · have := ih (by omega)
      rw [show zC p (n + 1) = zC p n + (if p n = true then 1 else 0) from rfl]
      split <;> omega
theorem z_slt {t h c : Nat} (ht : t < 2 ^ 30) (hh : h ≤ t) (hc : c < 2 ^ 30) : nI t - nI h < nI c ↔ t < h + c := by
  rw [pk_sub hh, nI_ltI (by omega) (by omega)]; omega
theorem z_sle {t h c : Nat} (ht : t < 2 ^ 30) (hh : h ≤ t) (hc : c < 2 ^ 30) : nI c ≤ nI t - nI h ↔ h + c ≤ t := by
  rw [pk_sub hh, nI_leI (by omega) (by omega)]; omega
def zH (hr : Nat → Int32) (k : Nat) : Nat := (hr k).toNatClampNeg
def zHo (hr : Nat → Int32) (t n : Nat) : Prop := (∀ j, j < n → ∃ h, h ≤ t ∧ hr j = nI h) ∧ ∀ i j, i ≤ j → j < n → zH hr i ≤ zH hr j
theorem zHo_at {hr : Nat → Int32} {t n j : Nat} (h : zHo hr t n) (ht : t ≤ 3001) (hj : j < n) : hr j = nI (zH hr j) ∧ zH hr j ≤ t := by
  obtain ⟨x, hx, e⟩ := h.1 j hj
  have q : zH hr j = x := by rw [zH, e, nI_clamp (by omega)]
  rw [q]; exact ⟨e, hx⟩
def zP6 (hr pl : Nat → Int32) (p : Int32) (t j : Nat) : Bool := decide (pl j = p ∧ t < zH hr j + 6)
def zP24 (hr pl : Nat → Int32) (p : Int32) (t j : Nat) : Bool := decide (pl j = p ∧ t < zH hr j + 24)
def zPR (hr pl : Nat → Int32) (p : Int32) (t n : Nat) : Int32 := if zC (zP6 hr pl p t) n = 0 then (if 3 ≤ zC (zP24 hr pl p t) n then 0 else 1) else 0
theorem z_pr7 {f : Nat → Int32} {g : Nat → Nat → Int32} {t n : Nat} (p : Int32) (ht : t ≤ 3001) (hn : n ≤ 100) (h1 : f 1 = nI t) (h20 : f 20 = nI n) (hh : zHo (g 21) t n) : vX7_isPilotReady f g p = zPR (g 21) (g 23) p t n := by
  have key : ∀ k, k ≤ n → (nf (bX7_isPilotReady_7 f g p) ((0 : Int32), (0 : Int32)) k) = ((if zC (zP6 (g 21) (g 23) p t) k = 0 then 0 else 1), nI (zC (zP24 (g 21) (g 23) p t) k)) := by
    intro k hk
    induction k with
    | zero => rfl
    | succ k ih =>
      obtain ⟨e1, e2⟩ := zHo_at hh ht (show k < n by omega)
      have c6 : (6 : Int32) ≤ nI t - nI (zH (g 21) k) ↔ zH (g 21) k + 6 ≤ t := z_sle (c := 6) (by omega) e2 (by omega)
      have c24 : (24 : Int32) ≤ nI t - nI (zH (g 21) k) ↔ zH (g 21) k + 24 ≤ t := z_sle (c := 24) (by omega) e2 (by omega)
      rw [nf, ih (by omega), bX7_isPilotReady_7]
      simp only [nI_clamp (show k < 2 ^ 31 by omega), h1]
      rw [e1]
      simp only [c6, c24]
      have z10 : ¬ (1 : Int32) = 0 := by decide
      by_cases a : g 23 k = p
      · by_cases b : zH (g 21) k + 6 ≤ t
        · have b' : zP6 (g 21) (g 23) p t k = false := decide_eq_false (fun z => by omega)
          rw [zC_f b']
          by_cases c : zH (g 21) k + 24 ≤ t
          · have c' : zP24 (g 21) (g 23) p t k = false := decide_eq_false (fun z => by omega)
            rw [zC_f c']
            by_cases d : zC (zP6 (g 21) (g 23) p t) k = 0
            · simp only [if_pos d, if_pos a, if_pos b, if_pos c, if_true, Int32.add_zero]
            · simp only [if_neg d, if_neg z10, if_pos a, if_pos c, Int32.add_zero]
          · have c' : zP24 (g 21) (g 23) p t k = true := decide_eq_true ⟨a, by omega⟩
            rw [zC_t c']
            by_cases d : zC (zP6 (g 21) (g 23) p t) k = 0
            · simp only [if_pos d, if_pos a, if_pos b, if_neg c, if_true, nI_1]
            · simp only [if_neg d, if_neg z10, if_pos a, if_neg c, nI_1]
        · have b' : zP6 (g 21) (g 23) p t k = true := decide_eq_true ⟨a, by omega⟩
          have c : ¬ zH (g 21) k + 24 ≤ t := by omega
          have c' : zP24 (g 21) (g 23) p t k = true := decide_eq_true ⟨a, by omega⟩
          rw [zC_t b', zC_t c', if_neg (show ¬ zC (zP6 (g 21) (g 23) p t) k + 1 = 0 by omega)]
          by_cases d : zC (zP6 (g 21) (g 23) p t) k = 0
          · simp only [if_pos d, if_pos a, if_neg b, if_neg c, if_true, nI_1]
          · simp only [if_neg d, if_neg z10, if_pos a, if_neg c, nI_1]
      · have b' : zP6 (g 21) (g 23) p t k = false := decide_eq_false (fun z => a z.1)
        have c' : zP24 (g 21) (g 23) p t k = false := decide_eq_false (fun z => a z.1)
        rw [zC_f b', zC_f c']
        by_cases d : zC (zP6 (g 21) (g 23) p t) k = 0
        · simp only [if_pos d, if_neg a, if_true, Int32.add_zero]
        · simp only [if_neg d, if_neg z10, if_neg a, Int32.add_zero]
  rw [vX7_isPilotReady, h20, nI_clamp (by omega), key n (Nat.le_refl _), zPR]
  have hc := @zC_le (zP24 (g 21) (g 23) p t) n
  have c3 : (3 : Int32) ≤ nI (zC (zP24 (g 21) (g 23) p t) n) ↔ 3 ≤ zC (zP24 (g 21) (g 23) p t) n := nI_leI (a := 3) (by omega) (by omega)
  by_cases d : zC (zP6 (g 21) (g 23) p t) n = 0
  · rw [if_pos d, if_pos d, if_pos rfl]
    simp only [c3]
  · rw [if_neg d, if_neg d]; rfl
theorem z_pr0 {F : Nat → Int32} {G : Nat → Nat → Int32} {N : Nat → Nat} {Q : Nat → Nat → Nat} {t n : Nat} (p : Int32) (ht : t ≤ 3001) (hn : n ≤ 100) (hh : zHo (G 16) t n) : vX0_pilotIsReady F G N Q p (nI t) n = zPR (G 16) (G 18) p t n := by
  have hc := @zC_le (zP24 (G 16) (G 18) p t) n
  have c3 : (3 : Int32) ≤ nI (zC (zP24 (G 16) (G 18) p t) n) ↔ 3 ≤ zC (zP24 (G 16) (G 18) p t) n := nI_leI (a := 3) (by omega) (by omega)
  have key := z_bkI (f := bX0_pilotIsReady_18 F G N Q p (nI t) n) (a := (0 : Int32))
    (fun j v => (∀ i, n - j ≤ i → i < n → zP6 (G 16) (G 18) p t i = false) ∧ ∃ c, v = nI c ∧ c + zC (zP24 (G 16) (G 18) p t) (n - j) = zC (zP24 (G 16) (G 18) p t) n)
    (fun r => bkK (fun v => zC (zP6 (G 16) (G 18) p t) n = 0 ∧ v = nI (zC (zP24 (G 16) (G 18) p t) n)) (fun _ => ¬ zC (zP6 (G 16) (G 18) p t) n = 0) r) n
    ⟨fun i a b => absurd b (by omega), 0, rfl, by rw [Nat.sub_zero]; omega⟩ (by
      intro j hj v ⟨h1, c, e, hcc⟩
      obtain ⟨e1, e2⟩ := zHo_at hh ht (show n - 1 - j < n by omega)
      have hx : n - j = (n - 1 - j) + 1 := by omega
      have hy : n - (j + 1) = n - 1 - j := by omega
      generalize hk : n - 1 - j = k at *
      have c6 : (6 : Int32) ≤ nI t - nI (zH (G 16) k) ↔ zH (G 16) k + 6 ≤ t := z_sle (c := 6) (by omega) e2 (by omega)
      have c24 : nI t - nI (zH (G 16) k) < (24 : Int32) ↔ t < zH (G 16) k + 24 := z_slt (c := 24) (by omega) e2 (by omega)
      rw [bX0_pilotIsReady_18, hk, e1]
      simp only [c6, c24]
      rw [hx] at h1 hcc
      rw [hy]
      by_cases b : t < zH (G 16) k + 24
      · rw [if_pos b]
        by_cases a : G 18 k = p
        · rw [if_pos a]
          have c' : zP24 (G 16) (G 18) p t k = true := decide_eq_true ⟨a, by omega⟩
          rw [zC_t c'] at hcc
          by_cases d : zH (G 16) k + 6 ≤ t
          · rw [if_pos d]
            refine ⟨fun i hi hin => ?_, c + 1, by rw [e]; exact nI_1 c, by omega⟩
            by_cases q : i = k
            · rw [q]; exact decide_eq_false (fun z => by omega)
            · exact h1 i (by omega) hin
          · rw [if_neg d]
            show ¬ _
            intro z
            have := zC_0.mp z k (by omega)
            rw [zP6, decide_eq_true ⟨a, by omega⟩] at this
            exact Bool.noConfusion this
        · rw [if_neg a]
          have c' : zP24 (G 16) (G 18) p t k = false := decide_eq_false (fun z => a z.1)
          rw [zC_f c'] at hcc
          refine ⟨fun i hi hin => ?_, c, e, hcc⟩
          by_cases q : i = k
          · rw [q]; exact decide_eq_false (fun z => a z.1)
          · exact h1 i (by omega) hin
      · rw [if_neg b]
        have old : ∀ i, i < k + 1 → zH (G 16) i + 24 ≤ t := fun i hi => by
          have := hh.2 i k (by omega) (by omega)
          omega
        have z24 : zC (zP24 (G 16) (G 18) p t) (k + 1) = 0 := zC_0.mpr fun i hi => decide_eq_false (fun z => by have := old i hi; omega)
        refine ⟨zC_0.mpr fun i hi => ?_, by rw [e]; congr 1; omega⟩
        by_cases q : i < k + 1
        · exact decide_eq_false (fun z => by have := old i q; omega)
        · exact h1 i (by omega) hi)
  rw [vX0_pilotIsReady, zPR]
  refine z_bkE (T := fun z => z = if zC (zP6 (G 16) (G 18) p t) n = 0 then (if 3 ≤ zC (zP24 (G 16) (G 18) p t) n then (0 : Int32) else 1) else 0) key ?_ ?_
  · intro v ⟨h1, c, e, hcc⟩
    have z : zC (zP6 (G 16) (G 18) p t) n = 0 := zC_0.mpr fun i hi => h1 i (by omega) hi
    rw [if_pos z]
    have : c = zC (zP24 (G 16) (G 18) p t) n := by rw [Nat.sub_self, zC] at hcc; omega
    rw [e, this]
    simp only [c3]
  · intro r hr
    cases r with
    | inl v =>
      obtain ⟨z, e⟩ := hr
      rw [if_pos z]
      show (if (3 : Int32) ≤ v then (0 : Int32) else 1) = _
      rw [e]
      simp only [c3]
    | inr v =>
      rw [if_neg hr]
      rfl
theorem zPR_congr {hr hr' pl pl' : Nat → Int32} {p : Int32} {t n : Nat} (h : zAg n hr hr') (h2 : zAg n pl pl') : zPR hr pl p t n = zPR hr' pl' p t n := by
  rw [zPR, zPR, zC_congr (p := zP6 hr pl p t) (q := zP6 hr' pl' p t) (fun j hj => by rw [zP6, zP6, zH, zH, h j hj, h2 j hj]), zC_congr (p := zP24 hr pl p t) (q := zP24 hr' pl' p t) (fun j hj => by rw [zP24, zP24, zH, zH, h j hj, h2 j hj])]
theorem zHo_congr {hr hr' : Nat → Int32} {t n : Nat} (h : zAg n hr hr') (hh : zHo hr t n) : zHo hr' t n := by
  refine ⟨fun j hj => by rw [← h j hj]; exact hh.1 j hj, fun i j hij hj => ?_⟩
  rw [zH, zH, ← h i (by omega), ← h j hj]
  exact hh.2 i j hij hj
end
