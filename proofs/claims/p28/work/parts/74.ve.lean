section
/-- what pass leaves -/
def pF (F : Nat → Int32) (G : Nat → Nat → Int32) (N : Nat → Nat) (Q : Nat → Nat → Nat) (a : Int32) : Nat → Int32 := (hu (hu (hu F 0 (sX6_pass F G N Q a).2.2.1) 1 (sX6_pass F G N Q a).2.2.2.1) 2 (sX6_pass F G N Q a).2.2.2.2.1)
def pG (F : Nat → Int32) (G : Nat → Nat → Int32) (N : Nat → Nat) (Q : Nat → Nat → Nat) (a : Int32) : Nat → Nat → Int32 := (hu (hu (hu (hu (hu (hu (hu (hu (hu (hu (hu (hu G 3 (sX6_pass F G N Q a).2.2.2.2.2.1) 4 (sX6_pass F G N Q a).2.2.2.2.2.2.1) 10 (sX6_pass F G N Q a).2.2.2.2.2.2.2.1) 11 (sX6_pass F G N Q a).2.2.2.2.2.2.2.2.1) 12 (sX6_pass F G N Q a).2.2.2.2.2.2.2.2.2.1) 13 (sX6_pass F G N Q a).2.2.2.2.2.2.2.2.2.2.1) 14 (sX6_pass F G N Q a).2.2.2.2.2.2.2.2.2.2.2.1) 15 (sX6_pass F G N Q a).2.2.2.2.2.2.2.2.2.2.2.2.1) 16 (sX6_pass F G N Q a).2.2.2.2.2.2.2.2.2.2.2.2.2.1) 17 (sX6_pass F G N Q a).2.2.2.2.2.2.2.2.2.2.2.2.2.2.1) 18 (sX6_pass F G N Q a).2.2.2.2.2.2.2.2.2.2.2.2.2.2.2.1) 19 (sX6_pass F G N Q a).2.2.2.2.2.2.2.2.2.2.2.2.2.2.2.2.1)
def pN (F : Nat → Int32) (G : Nat → Nat → Int32) (N : Nat → Nat) (Q : Nat → Nat → Nat) (a : Int32) : Nat → Nat := (hu (hu N 1 (sX6_pass F G N Q a).1) 2 (sX6_pass F G N Q a).2.2.2.2.2.2.2.2.2.2.2.2.2.2.2.2.2.1)
def pQ (F : Nat → Int32) (G : Nat → Nat → Int32) (N : Nat → Nat) (Q : Nat → Nat → Nat) (a : Int32) : Nat → Nat → Nat := (hu (hu Q 1 (sX6_pass F G N Q a).2.1) 0 (sX6_pass F G N Q a).2.2.2.2.2.2.2.2.2.2.2.2.2.2.2.2.2.2)
theorem z_pass1 {t : Nat} {F : Nat → Int32} {G : Nat → Nat → Int32} {N : Nat → Nat} {Q : Nat → Nat → Nat} (hJ : zJ t F G N Q) (ht1 : t + 1 ≤ 3000) (hm : F 1 + F 2 + zIs (G 4) 6 = zIs (G 13) (N 0)) (hB : zB (N 0) (G 9) (G 10)) :
    eX6_pass F G N Q 1 = 0 ∧ vX6_pass F G N Q 1 = nI (pN F G N Q 1 1 - N 1) ∧ zJ (t + 1) (pF F G N Q 1) (pG F G N Q 1) (pN F G N Q 1) (pQ F G N Q 1) ∧
    zH9 (t + 1) (N 0) (G 9) (G 10) (G 12) (G 14) (G 15) (N 1) (pF F G N Q 1 1) (pF F G N Q 1 2) (pG F G N Q 1 4) (pG F G N Q 1 10) (pG F G N Q 1 12) (pG F G N Q 1 13) (pG F G N Q 1 14) (pG F G N Q 1 15) (pG F G N Q 1 16) (pG F G N Q 1 17) (pN F G N Q 1 1) (pQ F G N Q 1 1) := by
  obtain ⟨f, g, ⟨⟨ht, eF, f1, f18, f19, f5, f20⟩, hW, hP, hK, hE, hSt, hZ, hM, hO⟩, hS, hQ, hRI⟩ := id hJ
  obtain ⟨f9, g9, hI⟩ := hJ.I
  have zf := (zf_pass 1 hI).2
  have e1 : eX6_checkRange 1 1 100 = 0 := by decide
  have e2 : F 0 + 1 ≤ (3000 : Int32) := by
    rw [eF, nI_1]; exact nI_le (b := 3000) (by omega) (by decide)
  have c1 : ((1 : Int32)).toNatClampNeg = 1 := by decide
  generalize eu : bX6_pass_39 F G N Q 1 0 (F 0, F 1, F 2, G 3, G 4, G 10, G 11, G 12, G 13, G 14, G 15, G 16, G 17, G 18, G 19, N 1, N 2, Q 0, Q 1) = u
  have eS : sX6_pass F G N Q 1 = (u.2.2.2.2.2.2.2.2.2.2.2.2.2.2.2.1, u.2.2.2.2.2.2.2.2.2.2.2.2.2.2.2.2.2.2, u.1, u.2.1, u.2.2.1, u.2.2.2.1, u.2.2.2.2.1, u.2.2.2.2.2.1, u.2.2.2.2.2.2.1, u.2.2.2.2.2.2.2.1, u.2.2.2.2.2.2.2.2.1, u.2.2.2.2.2.2.2.2.2.1, u.2.2.2.2.2.2.2.2.2.2.1, u.2.2.2.2.2.2.2.2.2.2.2.1, u.2.2.2.2.2.2.2.2.2.2.2.2.1, u.2.2.2.2.2.2.2.2.2.2.2.2.2.1, u.2.2.2.2.2.2.2.2.2.2.2.2.2.2.1, u.2.2.2.2.2.2.2.2.2.2.2.2.2.2.2.2.1, u.2.2.2.2.2.2.2.2.2.2.2.2.2.2.2.2.2.1) := by
    rw [sX6_pass, if_pos e1, if_pos e2, c1, ← eu]
    rfl
  have h9 := z_hour9 (t := t) (f := f) (g := g) (F := F) (G := G) (N := N) (Q := Q) (a1 := 1) (j := 0) (w0 := F 0) (w1 := F 1) (w2 := F 2) (w3 := G 3) (w4 := G 4) (w5 := G 10) (w6 := G 11) (w7 := G 12) (w8 := G 13) (w9 := G 14) (w10 := G 15) (w11 := G 16) (w12 := G 17) (w13 := G 18) (w14 := G 19) (w15 := N 1) (w16 := N 2) (w17 := Q 0) (w18 := Q 1) ht1 ⟨⟨ht, eF, f1, f18, f19, f5, f20⟩, hW, hP, hK, hE, hSt, hZ, hM, hO⟩ (z_sdr2 (i := 0) (t := t) (f := f) (g := g) (F := F) (G := G) (N := N) (Q := Q) ⟨⟨ht, eF, f1, f18, f19, f5, f20⟩, hW, hP, hK, hE, hSt, hZ, hM, hO⟩ hS rfl rfl rfl rfl rfl rfl rfl rfl rfl rfl rfl) hQ hm hB eu
  have hN1 : pN F G N Q 1 1 = u.2.2.2.2.2.2.2.2.2.2.2.2.2.2.2.1 := congrArg (fun x => x.1) eS
  have u0 : u.1 = nI (t + 1) := by
    rw [← eu]
    show F 0 + 1 = _
    rw [eF, nI_1]
  refine ⟨by rw [eX6_pass, if_pos e1, if_pos e2], ?_, ?_, ?_⟩
  · rw [vX6_pass, if_pos e1, if_pos e2, c1, hN1]
    have e3 : nf (bX6_pass_39 F G N Q 1) (F 0, F 1, F 2, G 3, G 4, G 10, G 11, G 12, G 13, G 14, G 15, G 16, G 17, G 18, G 19, N 1, N 2, Q 0, Q 1) 1 = u := eu
    rw [e3, pk_sub h9.2.2.1.1]
  · refine zJ.of (f := (sX7_pass f9 g9 1).1) (g := (sX7_pass f9 g9 1).2) zf ht1 ?_
    show (sX6_pass F G N Q 1).2.2.1 = _
    rw [eS]; exact u0
  · have k := h9
    unfold pF pG pN pQ
    rw [eS]
    exact k
/-- an hour's cost tells the same -/
theorem pN_cost {F : Nat → Int32} {G : Nat → Nat → Int32} {N : Nat → Nat} {Q : Nat → Nat → Nat} {a : Int32} : (sX6_pass F G N Q a).1 = pN F G N Q a 1 := rfl
/-- what the law's own rows keep of the port -/
def zo12 (x : Int32) : Int32 := if x = -1 then 0 else x
def zX (F : Nat → Int32) (G : Nat → Nat → Int32) (N : Nat → Nat) : Prop :=
  N 0 ≤ 10 ∧ F 1 + F 2 + zIs (G 4) 6 = zIs (G 13) (N 0) ∧ zB (N 0) (G 9) (G 10) ∧ ((∀ j, j < 12 → 0 ≤ (G 0 j).toInt ∧ (G 0 j).toInt ≤ 150) ∧ ∀ k, k < 6 → 0 ≤ (G 2 k).toInt) ∧ (∀ x, x ≤ 3100 → -40 ≤ (G 1 x).toInt ∧ (G 1 x).toInt ≤ 40) ∧ ∀ s, s < N 0 → G 12 s = -1 ∨ ∃ h, 1 ≤ h ∧ h ≤ 3000 ∧ G 12 s = nI h
def zMi (t : Nat) (G : Nat → Nat → Int32) (N : Nat → Nat) (cf pf : Nat → Int32) : Prop :=
  cf 0 = nI t ∧ cf 1 = nI (N 0) ∧ cf 2 = nI (N 1) ∧ cf 3 = nI (N 2) ∧ (∀ k, k < 6 → cf (8 + k) = G 2 k) ∧
  (∀ k, k < N 0 → pf k = G 6 k ∧ pf (10 + k) = G 7 k ∧ pf (20 + k) = G 8 k ∧ pf (30 + k) = G 9 k ∧ pf (40 + k) = G 10 k ∧ pf (50 + k) = zo12 (G 12 k)) ∧ ∀ k, N 0 ≤ k → k < 10 → pf (50 + k) = 0
def zL (t : Nat) (F : Nat → Int32) (G : Nat → Nat → Int32) (N : Nat → Nat) (Q : Nat → Nat → Nat) (cf pf : Nat → Int32) : Prop := zJ t F G N Q ∧ zX F G N ∧ zMi t G N cf pf
/-- the law's world, of any port that keeps all this at hour t -/
def LG (D : va_G) (Y : Nat → ClassId) (z tE ac ap : Nat) (ad : Nat → Nat) : Heap → Prop := fun H => ∃ t F G N Q cf pf, zL t F G N Q cf pf ∧ LV D Y z tE ac ap ad F G N Q cf pf H
theorem zo_ord {G12 : Int32} (h : G12 = -1 ∨ ∃ h, 1 ≤ h ∧ h ≤ 3000 ∧ G12 = nI h) : (G12 = -1 ∧ zo12 G12 = 0) ∨ ((¬ G12 = -1) ∧ ∃ h, 1 ≤ h ∧ h ≤ 3000 ∧ G12 = nI h ∧ zo12 G12 = nI h) := by
  rcases h with e | ⟨h, h1, h2, e⟩
  · exact Or.inl ⟨e, if_pos e⟩
  · have hn : ¬ G12 = -1 := by rw [e]; exact z_m1 (by omega)
    exact Or.inr ⟨hn, h, h1, h2, e, by rw [zo12, if_neg hn, e]⟩
/-- moves of ten ships -/
theorem z_n20 {t : Nat} {F : Nat → Int32} {G : Nat → Nat → Int32} {N : Nat → Nat} {Q : Nat → Nat → Nat} (hJ : zJ t F G N Q) (h0 : N 0 ≤ 10) : N 1 ≤ 20 := by
  have hO := hJ.zo
  have hM := hJ.mv
  have e0 : ∀ n, zC (fun _ => true) n = n := by
    intro n
    induction n with
    | zero => rfl
    | succ n ih => rw [zC_t rfl, ih]
  have e1 := z_part (c := fun _ => true) (q := Q 1) (m := N 0) (N 1) (fun k hk => (hM k hk).1)
  rw [e0] at e1
  simp only [Bool.and_true] at e1
  have sp : ∀ s n, zC (fun k => decide (Q 1 k = s)) n ≤ zC (zIn (G 17) (Q 1) s) n + zC (zOu (G 17) (Q 1) s) n := by
    intro s n
    induction n with
    | zero => exact Nat.le_refl _
    | succ n ih =>
      unfold zC
      by_cases c : Q 1 n = s
      · by_cases d : G 17 n = 0
        · simp [zIn, zOu, c, d]; omega
        · simp [zIn, zOu, c, d]; omega
      · simp [zIn, zOu, c]; omega
  have le : ∀ m, m ≤ N 0 → zSu (fun s => zC (fun k => decide (Q 1 k = s)) (N 1)) m ≤ 2 * m := by
    intro m
    induction m with
    | zero => intro _; exact Nat.le_refl _
    | succ m ih =>
      intro hm
      have a := ih (by omega)
      have b := sp m (N 1)
      obtain ⟨o1, o2, _⟩ := hO m (by omega)
      have c1 : zC (zIn (G 17) (Q 1) m) (N 1) ≤ 1 := by rw [o1]; split <;> omega
      have c2 : zC (zOu (G 17) (Q 1) m) (N 1) ≤ 1 := by rw [o2]; split <;> omega
      show zSu (fun s => zC (fun k => decide (Q 1 k = s)) (N 1)) m + zC (fun k => decide (Q 1 k = m)) (N 1) ≤ _
      omega
  have := le (N 0) (Nat.le_refl _)
  omega
end
