section
def sG (F : Nat → Int32) (G : Nat → Nat → Int32) (N : Nat → Nat) (Q : Nat → Nat → Nat) (a b c d : Int32) : Nat → Nat → Int32 := (hu (hu (hu (hu (hu (hu (hu (hu (hu (hu (hu G 5 (sX6_ship F G N Q a b c d).2.1) 6 (sX6_ship F G N Q a b c d).2.2.1) 7 (sX6_ship F G N Q a b c d).2.2.2.1) 8 (sX6_ship F G N Q a b c d).2.2.2.2.1) 9 (sX6_ship F G N Q a b c d).2.2.2.2.2.1) 10 (sX6_ship F G N Q a b c d).2.2.2.2.2.2.1) 11 (sX6_ship F G N Q a b c d).2.2.2.2.2.2.2.1) 12 (sX6_ship F G N Q a b c d).2.2.2.2.2.2.2.2.1) 13 (sX6_ship F G N Q a b c d).2.2.2.2.2.2.2.2.2.1) 14 (sX6_ship F G N Q a b c d).2.2.2.2.2.2.2.2.2.2.1) 15 (sX6_ship F G N Q a b c d).2.2.2.2.2.2.2.2.2.2.2)
def sN (F : Nat → Int32) (G : Nat → Nat → Int32) (N : Nat → Nat) (Q : Nat → Nat → Nat) (a b c d : Int32) : Nat → Nat := hu N 0 (sX6_ship F G N Q a b c d).1
variable {t : Nat} {F : Nat → Int32} {G : Nat → Nat → Int32} {N : Nat → Nat} {Q : Nat → Nat → Nat} {cf pf : Nat → Int32}
theorem z_Lship (hL : zL t F G N Q cf pf) (h9 : N 0 < 10) {sz dr ct bt : Nat} (s1 : 1 ≤ sz) (s2 : sz ≤ 4) (d1 : 10 ≤ dr) (d2 : dr ≤ 150) (c1 : ct ≤ 3) (b1 : bt < 6) {cf' pf' : Nat → Int32} (k1 : cf' 1 = nI (N 0 + 1)) (k2 : ∀ i, ¬ i = 1 → cf' i = cf i) (q0 : pf' (N 0) = nI sz) (q1 : pf' (10 + N 0) = nI dr) (q2 : pf' (20 + N 0) = nI ct) (q3 : pf' (30 + N 0) = nI bt) (q4 : pf' (40 + N 0) = 0) (qn : ∀ k, k < 10 → ¬ k = N 0 → pf' k = pf k ∧ pf' (10 + k) = pf (10 + k) ∧ pf' (20 + k) = pf (20 + k) ∧ pf' (30 + k) = pf (30 + k) ∧ pf' (40 + k) = pf (40 + k)) (q5 : ∀ k, k < 10 → pf' (50 + k) = pf (50 + k)) :
    eX6_ship F G N Q (nI sz) (nI dr) (nI ct) (nI bt) = 0 ∧ vX6_ship F G N Q (nI sz) (nI dr) (nI ct) (nI bt) = nI (N 0) ∧ zL t F (sG F G N Q (nI sz) (nI dr) (nI ct) (nI bt)) (sN F G N Q (nI sz) (nI dr) (nI ct) (nI bt)) Q cf' pf' ∧ sN F G N Q (nI sz) (nI dr) (nI ct) (nI bt) 0 = N 0 + 1 ∧ sG F G N Q (nI sz) (nI dr) (nI ct) (nI bt) 10 (N 0) = 0 ∧ sG F G N Q (nI sz) (nI dr) (nI ct) (nI bt) 13 (N 0) = 0 ∧ sG F G N Q (nI sz) (nI dr) (nI ct) (nI bt) 12 (N 0) = -1 := by
  obtain ⟨hJ, ⟨x1, x2, x3, ⟨x4, x4b⟩, x5, x6⟩, ⟨m0, m1, m2, m3, m8, mi, mo⟩⟩ := id hL
  obtain ⟨f, g, hI⟩ := hJ.I
  have e1 : eX6_checkPlace (nI bt) (6 : Int32) = 0 := zv_cp b1 (by decide)
  have e2 : eX6_checkRange (nI sz) (1 : Int32) (4 : Int32) = 0 := zv_cr (lo := 1) (hi := 4) s1 s2 (by decide)
  have e3 : eX6_checkRange (nI dr) (10 : Int32) (150 : Int32) = 0 := zv_cr (lo := 10) (hi := 150) d1 d2 (by decide)
  have e4 : eX6_checkRange (nI ct) (0 : Int32) (3 : Int32) = 0 := zv_cr (lo := 0) (hi := 3) (by omega) c1 (by decide)
  have e5 : nI (N 0) < (30 : Int32) := nI_lt (b := 30) (by omega) (by decide)
  have hJ' : zJ t F (sG F G N Q (nI sz) (nI dr) (nI ct) (nI bt)) (sN F G N Q (nI sz) (nI dr) (nI ct) (nI bt)) Q := zJ.of (zf_ship (nI sz) (nI dr) (nI ct) (nI bt) hI).2 hJ.tt.1 hJ.tt.2
  have eS : sX6_ship F G N Q (nI sz) (nI dr) (nI ct) (nI bt) = (N 0 + 1, upd (G 5) (N 0) (nI (N 0)), upd (G 6) (N 0) (nI sz), upd (G 7) (N 0) (nI dr), upd (G 8) (N 0) (nI ct), upd (G 9) (N 0) (nI bt), upd (G 10) (N 0) 0, upd (G 11) (N 0) (-1), upd (G 12) (N 0) (-1), upd (G 13) (N 0) 0, upd (G 14) (N 0) 0, upd (G 15) (N 0) 0) := by
    rw [sX6_ship, if_pos e1, if_pos e2, if_pos e3, if_pos e4, if_pos e5]
  have n0 : sN F G N Q (nI sz) (nI dr) (nI ct) (nI bt) 0 = N 0 + 1 := congrArg (fun x => x.1) eS
  have g6 : sG F G N Q (nI sz) (nI dr) (nI ct) (nI bt) 6 = upd (G 6) (N 0) (nI sz) := congrArg (fun x => x.2.2.1) eS
  have g7 : sG F G N Q (nI sz) (nI dr) (nI ct) (nI bt) 7 = upd (G 7) (N 0) (nI dr) := congrArg (fun x => x.2.2.2.1) eS
  have g8 : sG F G N Q (nI sz) (nI dr) (nI ct) (nI bt) 8 = upd (G 8) (N 0) (nI ct) := congrArg (fun x => x.2.2.2.2.1) eS
  have g9 : sG F G N Q (nI sz) (nI dr) (nI ct) (nI bt) 9 = upd (G 9) (N 0) (nI bt) := congrArg (fun x => x.2.2.2.2.2.1) eS
  have g10 : sG F G N Q (nI sz) (nI dr) (nI ct) (nI bt) 10 = upd (G 10) (N 0) 0 := congrArg (fun x => x.2.2.2.2.2.2.1) eS
  have g12 : sG F G N Q (nI sz) (nI dr) (nI ct) (nI bt) 12 = upd (G 12) (N 0) (-1) := congrArg (fun x => x.2.2.2.2.2.2.2.2.1) eS
  have g13 : sG F G N Q (nI sz) (nI dr) (nI ct) (nI bt) 13 = upd (G 13) (N 0) 0 := congrArg (fun x => x.2.2.2.2.2.2.2.2.2.1) eS
  refine ⟨by rw [eX6_ship, if_pos e1, if_pos e2, if_pos e3, if_pos e4, if_pos e5], by rw [vX6_ship, if_pos e1, if_pos e2, if_pos e3, if_pos e4, if_pos e5], ⟨hJ', ⟨by omega, ?_, ?_, ⟨x4, x4b⟩, x5, fun s hs => ?_⟩, ⟨(k2 0 (by decide)).trans m0, by rw [n0]; exact k1, (k2 2 (by decide)).trans m2, (k2 3 (by decide)).trans m3, fun k hk => (k2 _ (by omega)).trans (m8 k hk), fun k hk => ?_, fun k hk hk2 => ?_⟩⟩, n0, by rw [g10, up_s], by rw [g13, up_s], by rw [g12, up_s]⟩
  · rw [n0, g13]
    show F 1 + F 2 + zIs (G 4) 6 = zIs (upd (G 13) (N 0) 0) (N 0) + upd (G 13) (N 0) 0 (N 0)
    rw [up_s, Int32.add_zero, zIs_out (Nat.le_refl _)]
    exact x2
  · rw [n0, g9, g10]
    intro j k hj hk hne e pj pk
    have nz : ¬ zBz (0 : Int32) := fun z => by rcases z with z | z | z <;> exact absurd z (by decide)
    by_cases c : j = N 0
    · rw [c, up_s] at pj; exact nz pj
    · by_cases c2 : k = N 0
      · rw [c2, up_s] at pk; exact nz pk
      · rw [up_n c] at pj e
        rw [up_n c2] at pk e
        exact x3 j k (by omega) (by omega) hne e pj pk
  · rw [n0] at hs
    rw [g12]
    by_cases c : s = N 0
    · rw [c, up_s]; exact Or.inl rfl
    · rw [up_n c]; exact x6 s (by omega)
  · rw [n0] at hk
    rw [g6, g7, g8, g9, g10, g12]
    by_cases c : k = N 0
    · rw [c, up_s, up_s, up_s, up_s, up_s, up_s, q5 _ h9, mo _ (Nat.le_refl _) h9, zo12, if_pos rfl]
      exact ⟨q0, q1, q2, q3, q4, rfl⟩
    · rw [up_n c, up_n c, up_n c, up_n c, up_n c, up_n c, q5 k (by omega)]
      obtain ⟨a1, a2, a3, a4, a5, a6⟩ := mi k (by omega)
      obtain ⟨r0, r1, r2, r3, r4⟩ := qn k (by omega) c
      exact ⟨r0.trans a1, r1.trans a2, r2.trans a3, r3.trans a4, r4.trans a5, a6⟩
  · rw [n0] at hk
    rw [q5 k hk2]
    exact mo k (by omega) hk2
end
