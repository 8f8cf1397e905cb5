section
/-- the law's row p behind an hour, the first ships of it -/
def zpj (g10 g12 pf : Nat → Int32) : Nat → Nat → Int32
  | 0 => pf
  | j + 1 => upd (upd (zpj g10 g12 pf j) (50 + j) (zo12 (g12 j))) (40 + j) (g10 j)
theorem zpj_lo {g10 g12 pf : Nat → Int32} {j i : Nat} (hi : i < 40) : zpj g10 g12 pf j i = pf i := by
  induction j with
  | zero => rfl
  | succ j ih => rw [zpj, up_n (by omega), up_n (by omega), ih]
theorem zpj_hi {g10 g12 pf : Nat → Int32} {j s : Nat} (hj : j ≤ s) (hs : s < 10) : zpj g10 g12 pf j (50 + s) = pf (50 + s) ∧ zpj g10 g12 pf j (40 + s) = pf (40 + s) := by
  induction j with
  | zero => exact ⟨rfl, rfl⟩
  | succ j ih =>
    obtain ⟨a, b⟩ := ih (by omega)
    rw [zpj, up_n (by omega), up_n (by omega), up_n (by omega), up_n (by omega)]
    exact ⟨a, b⟩
theorem zpj_at {g10 g12 pf : Nat → Int32} {j s : Nat} (hj : s < j) (h10 : j ≤ 10) : zpj g10 g12 pf j (50 + s) = zo12 (g12 s) ∧ zpj g10 g12 pf j (40 + s) = g10 s := by
  induction j with
  | zero => omega
  | succ j ih =>
    rw [zpj]
    by_cases c : s = j
    · rw [c, up_n (by omega), up_s, up_s]; exact ⟨rfl, rfl⟩
    · obtain ⟨a, b⟩ := ih (by omega) (by omega)
      rw [up_n (by omega), up_n (by omega), up_n (by omega), up_n (by omega)]
      exact ⟨a, b⟩
def zGn (a b : Nat → Int32) (s : Nat) : Bool := decide ((¬ a s = -1) ∧ b s = -1)
theorem zGn_t {a b : Nat → Int32} {s : Nat} (h1 : ¬ a s = -1) (h2 : b s = -1) : zGn a b s = true := decide_eq_true ⟨h1, h2⟩
theorem zGn_f {a b : Nat → Int32} {s : Nat} (h : a s = -1 ∨ ¬ b s = -1) : zGn a b s = false := decide_eq_false (fun z => h.elim (fun q => z.1 q) (fun q => q z.2))
theorem zGn_cnt {a b : Nat → Int32} {n : Nat} (h : ∀ s, s < n → b s = -1 ∨ b s = a s) : zC (fun s => decide (¬ a s = -1)) n = zC (fun s => decide (¬ b s = -1)) n + zC (zGn a b) n := by
  induction n with
  | zero => rfl
  | succ n ih =>
    have e := ih (fun s hs => h s (by omega))
    have hn := h n (by omega)
    by_cases c : a n = -1
    · have d : b n = -1 := by
        rcases hn with z | z
        · exact z
        · rw [z]; exact c
      rw [zC_f (p := fun s => decide (¬ a s = -1)) (decide_eq_false (fun z => z c)), zC_f (p := fun s => decide (¬ b s = -1)) (decide_eq_false (fun z => z d)), zC_f (p := zGn a b) (zGn_f (Or.inl c))]
      exact e
    · by_cases d : b n = -1
      · rw [zC_t (p := fun s => decide (¬ a s = -1)) (decide_eq_true c), zC_f (p := fun s => decide (¬ b s = -1)) (decide_eq_false (fun z => z d)), zC_t (p := zGn a b) (zGn_t c d), e, Nat.add_assoc]
      · rw [zC_t (p := fun s => decide (¬ a s = -1)) (decide_eq_true c), zC_t (p := fun s => decide (¬ b s = -1)) (decide_eq_true d), zC_f (p := zGn a b) (zGn_f (Or.inr d)), e]
        omega
theorem zIs_d {g g' : Nat → Int32} {d : Nat → Nat} (h : ∀ s, g' s = g s + nI (d s)) : ∀ n, zIs g' n = zIs g n + nI (zSu d n) := by
  intro n
  induction n with
  | zero => exact (Int32.add_zero _).symm
  | succ n ih =>
    show zIs g' n + g' n = zIs g n + g n + nI (zSu d n + d n)
    rw [ih, h n, ← nI_add]
    grind
theorem zIs_dif {g g' : Nat → Int32} {d : Nat → Nat} {n : Nat} (h : ∀ s, g' s = g s + nI (d s)) : nf (fun s w => w + g' s) (nf (fun j w => w - g j) (0 : Int32) n) n = nI (zSu d n) := by
  rw [z_nfadd, z_nfsub]
  rw [zIs_d h n]
  grind
/-- what an hour leaves alone -/
def zEq (G : Nat → Nat → Int32) (N : Nat → Nat) (G1 : Nat → Nat → Int32) (N1 : Nat → Nat) : Prop := N1 0 = N 0 ∧ G1 0 = G 0 ∧ G1 1 = G 1 ∧ G1 2 = G 2 ∧ G1 5 = G 5 ∧ G1 6 = G 6 ∧ G1 7 = G 7 ∧ G1 8 = G 8 ∧ G1 9 = G 9
theorem zEq_pass {F : Nat → Int32} {G : Nat → Nat → Int32} {N : Nat → Nat} {Q : Nat → Nat → Nat} {a : Int32} : zEq G N (pG F G N Q a) (pN F G N Q a) := ⟨rfl, rfl, rfl, rfl, rfl, rfl, rfl, rfl, rfl⟩
section
variable {t : Nat} {F : Nat → Int32} {G : Nat → Nat → Int32} {N : Nat → Nat} {Q : Nat → Nat → Nat} {cf pf : Nat → Int32} {F1 : Nat → Int32} {G1 : Nat → Nat → Int32} {N1 : Nat → Nat} {Q1 : Nat → Nat → Nat}
theorem z_mvf (hL : zL t F G N Q cf pf) (hE : zEq G N G1 N1) (hJ1 : zJ (t + 1) F1 G1 N1 Q1) (h9 : zH9 (t + 1) (N 0) (G 9) (G 10) (G 12) (G 14) (G 15) (N 1) (F1 1) (F1 2) (G1 4) (G1 10) (G1 12) (G1 13) (G1 14) (G1 15) (G1 16) (G1 17) (N1 1) (Q1 1)) {m : Nat} (h1 : N 1 ≤ m) (h2 : m < N1 1) :
    ∃ pl oo hh, Q1 1 m < N1 0 ∧ G1 16 m = nI (t + 1) ∧ G1 18 m = nI pl ∧ pl < 6 ∧ G1 17 m = nI oo ∧ oo < 2 ∧ pf (50 + Q1 1 m) = nI hh ∧ 1 ≤ hh ∧ hh ≤ t + 1 ∧ ((oo = 0 ∧ pf (40 + Q1 1 m) = 0 ∧ G1 10 (Q1 1 m) = 1) ∨ (oo = 1 ∧ pf (40 + Q1 1 m) = 2 ∧ G1 10 (Q1 1 m) = 3)) := by
  obtain ⟨b1, b2, ⟨x, b3, b4⟩, b5⟩ := h9.2.2.1.2 m h1 h2
  obtain ⟨hk, pk, ok, k1, k2, k3, k4, k5, k6, k7, k8⟩ := z_mvs hJ1 h2
  have mi := hL.2.2.2.2.2.2.2.1 _ b2
  have tt := hJ1.tt.1
  refine ⟨pk, ok, x, k7, b1, k5, k2, k6, k3, ?_⟩
  rcases zo_ord (hL.2.1.2.2.2.2.2 _ b2) with ⟨a, b⟩ | ⟨a, y, y1, y2, y3, y4⟩
  · rw [b4] at a; exact absurd a (z_m1 (by omega))
  · have e : y = x := (nI_eq (by omega) (by omega)).mp (y3.symm.trans b4)
    subst e
    refine ⟨mi.2.2.2.2.2.trans y4, y1, b3, ?_⟩
    rw [mi.2.2.2.2.1]
    rcases b5 with ⟨c1, c2, c3⟩ | ⟨c1, c2, c3⟩
    · refine Or.inl ⟨?_, c2, c3⟩
      exact (nI_eq (b := 0) (by omega) (by decide)).mp (k6.symm.trans c1)
    · refine Or.inr ⟨?_, c2, c3⟩
      exact (nI_eq (b := 1) (by omega) (by decide)).mp (k6.symm.trans c1)
/-- at most six moves begin in an hour -/
theorem z_six (hE : zEq G N G1 N1) (hJ1 : zJ (t + 1) F1 G1 N1 Q1) (h9 : zH9 (t + 1) (N 0) (G 9) (G 10) (G 12) (G 14) (G 15) (N 1) (F1 1) (F1 2) (G1 4) (G1 10) (G1 12) (G1 13) (G1 14) (G1 15) (G1 16) (G1 17) (N1 1) (Q1 1)) : N1 1 - N 1 ≤ 6 := by
  have tt := hJ1.tt.1
  have hp : ∀ m, N 1 ≤ m → m < N1 1 → ∃ p, p < 6 ∧ G1 18 m = nI p := fun m h1 h2 => by
    obtain ⟨hk, pk, ok, k1, k2, k3, k4, k5, k6, k7, k8⟩ := z_mvs hJ1 h2
    exact ⟨pk, k2, k5⟩
  have hd : ∀ i j, N 1 ≤ i → i < j → j < N1 1 → ¬ G1 18 i = G1 18 j := fun i j hi hij hj e => by
    obtain ⟨p, p1, p2⟩ := hp j (by omega) hj
    have z := (z_pil hJ1 hj (h9.2.2.1.2 j (by omega) hj).1 p2 p1).1 i hij (e.trans p2)
    have z2 : zH (G1 16) i = t + 1 := by rw [zH, (h9.2.2.1.2 i hi (by omega)).1, nI_clamp (by omega)]
    omega
  have key := zC_card (n := 6) (q := fun i => (G1 18 (N 1 + i)).toNatClampNeg) (N1 1 - N 1) (fun s => decide (∃ i, i < N1 1 - N 1 ∧ (G1 18 (N 1 + i)).toNatClampNeg = s)) (fun i hi => by
    obtain ⟨p, p1, p2⟩ := hp (N 1 + i) (by omega) (by omega)
    rw [p2, nI_clamp (by omega)]; exact p1) (fun i j hij hj e => by
    obtain ⟨p, p1, p2⟩ := hp (N 1 + i) (by omega) (by omega)
    obtain ⟨r, r1, r2⟩ := hp (N 1 + j) (by omega) (by omega)
    rw [p2, r2, nI_clamp (by omega), nI_clamp (by omega)] at e
    exact hd (N 1 + i) (N 1 + j) (by omega) (by omega) (by omega) (by rw [p2, r2, e])) (fun s hs => by rw [decide_eq_true_iff])
  rw [← key]
  exact zC_le
theorem z_hrs (hL : zL t F G N Q cf pf) (hE : zEq G N G1 N1) (hJ1 : zJ (t + 1) F1 G1 N1 Q1) (h9 : zH9 (t + 1) (N 0) (G 9) (G 10) (G 12) (G 14) (G 15) (N 1) (F1 1) (F1 2) (G1 4) (G1 10) (G1 12) (G1 13) (G1 14) (G1 15) (G1 16) (G1 17) (N1 1) (Q1 1)) {c3 : Nat → Int32} (e0 : c3 0 = nI (t + 1)) (e1 : c3 1 = cf 1) (e2 : c3 2 = nI (N1 1)) (e3 : c3 3 = nI (N1 2)) (e8 : ∀ k, k < 6 → c3 (8 + k) = cf (8 + k)) : zL (t + 1) F1 G1 N1 Q1 c3 (zpj (G1 10) (G1 12) pf (N 0)) := by
  obtain ⟨q0, q1, q2, q3, q5, q6, q7, q8, q9⟩ := hE
  obtain ⟨hJ, ⟨x1, x2, x3, x4, x5, x6⟩, ⟨m0, m1, m2, m3, m8, mi, mo⟩⟩ := hL
  obtain ⟨h1, h2, h3, h4, h5⟩ := h9
  refine ⟨hJ1, ⟨by rw [q0]; exact x1, by rw [q0]; exact h1, by rw [q0, q9]; exact h2, by rw [q1, q3]; exact x4, by rw [q2]; exact x5, fun s hs => ?_⟩, ⟨e0, by rw [e1, q0]; exact m1, e2, e3, fun k hk => by rw [e8 k hk, q3]; exact m8 k hk, fun k hk => ?_, fun k hk hk2 => ?_⟩⟩
  · rw [q0] at hs
    rcases (h4 s hs).1 with z | ⟨z, _⟩
    · exact Or.inl z
    · rw [z]; exact x6 s hs
  · rw [q0] at hk
    obtain ⟨a1, a2, a3, a4, a5, a6⟩ := mi k hk
    obtain ⟨b1, b2⟩ := zpj_at (g10 := G1 10) (g12 := G1 12) (pf := pf) hk x1
    rw [q6, q7, q8, q9, zpj_lo (by omega), zpj_lo (by omega), zpj_lo (by omega), zpj_lo (by omega)]
    exact ⟨a1, a2, a3, a4, b2, b1⟩
  · rw [q0] at hk
    rw [(zpj_hi hk hk2).1]
    exact mo k hk hk2
theorem z_n2s (hJ : zJ t F G N Q) (hE : zEq G N G1 N1) (hJ1 : zJ (t + 1) F1 G1 N1 Q1) (h4 : ∀ s, s < N 0 → (G1 12 s = -1 ∨ (G1 12 s = G 12 s ∧ ∃ x, G1 12 s = nI x ∧ x ≤ 3000 ∧ t + 1 < x + 3)) ∧ (G1 10 s = G 10 s ∨ G1 10 s = G 10 s + 1)) : nI (N 2) - nI (zC (zGn (G 12) (G1 12)) (N 0)) = nI (N1 2) := by
  have e := zGn_cnt (a := G 12) (b := G1 12) (n := N 0) (fun s hs => (h4 s hs).1.imp id (fun z => z.1))
  have a := zQ_cnt hJ.q
  have b := zQ_cnt hJ1.q
  rw [hE.1] at b
  rw [a, b] at e
  rw [e, pk_sub (by omega)]
  congr 1
  omega
end
end
