section
/-- sums of pay -/
def zIs (f : Nat → Int32) : Nat → Int32
  | 0 => 0
  | n + 1 => zIs f n + f n
theorem zIs_congr {f g : Nat → Int32} {n : Nat} (h : ∀ j, j < n → f j = g j) : zIs f n = zIs g n := by
  induction n with
  | zero => rfl
  | succ n ih => rw [zIs, zIs, ih (fun j hj => h j (by omega)), h n (by omega)]
theorem zIs_out {f : Nat → Int32} {n i : Nat} {x : Int32} (h : n ≤ i) : zIs (upd f i x) n = zIs f n := zIs_congr (fun j hj => up_n (by omega))
theorem zIs_up {f : Nat → Int32} {i : Nat} {x d : Int32} (e : x = f i + d) : ∀ {n : Nat}, i < n → zIs (upd f i x) n = zIs f n + d := by
  intro n
  induction n with
  | zero => intro h; omega
  | succ n ih =>
    intro h
    rw [zIs, zIs]
    by_cases c : i = n
    · rw [zIs_out (by omega), ← c, up_s, e, Int32.add_assoc]
    · rw [ih (by omega), up_n (by omega), Int32.add_assoc, Int32.add_assoc, Int32.add_comm d]
theorem z_nfadd {f : Nat → Int32} {a : Int32} {n : Nat} : nf (fun j w => w + f j) a n = a + zIs f n := by
  induction n with
  | zero => rw [zIs, Int32.add_zero]; rfl
  | succ n ih =>
    show nf (fun j w => w + f j) a n + f n = _
    rw [ih, zIs, Int32.add_assoc]
theorem z_nfsub {f : Nat → Int32} {a : Int32} {n : Nat} : nf (fun j w => w - f j) a n = a - zIs f n := by
  induction n with
  | zero => rw [zIs, Int32.sub_zero]; rfl
  | succ n ih =>
    show nf (fun j w => w - f j) a n - f n = _
    rw [ih, zIs]
    grind
def zD1 (d : Nat → Nat) (i : Nat) : Nat → Nat := fun s => if s = i then d s + 1 else d s
theorem zD1_s {d : Nat → Nat} {i : Nat} : zD1 d i i = d i + 1 := if_pos rfl
theorem zD1_n {d : Nat → Nat} {i s : Nat} (h : ¬ s = i) : zD1 d i s = d s := if_neg h
theorem zSu_up {d : Nat → Nat} {i : Nat} : ∀ {n : Nat}, i < n → zSu (zD1 d i) n = zSu d n + 1 := by
  intro n
  induction n with
  | zero => intro h; omega
  | succ n ih =>
    intro h
    show zSu (zD1 d i) n + zD1 d i n = zSu d n + d n + 1
    by_cases c : n = i
    · rw [c, zD1_s, zSu_congr (b := d) (fun j hj => zD1_n (by omega))]
      omega
    · rw [zD1_n c, ih (by omega)]
      omega
/-- a berth with one ship -/
def zBz (s : Int32) : Prop := s = 1 ∨ s = 2 ∨ s = 3
def zB (n0 : Nat) (g9 g10 : Nat → Int32) : Prop := ∀ j k, j < n0 → k < n0 → ¬ j = k → g9 j = g9 k → zBz (g10 j) → zBz (g10 k) → False
theorem zB_mono {n0 : Nat} {g9 a b : Nat → Int32} (h : zB n0 g9 a) (hs : ∀ j, j < n0 → zBz (b j) → zBz (a j)) : zB n0 g9 b := fun j k hj hk hne e p q => h j k hj hk hne e (hs j hj p) (hs k hk q)
theorem z_kind {F : Nat → Int32} {G : Nat → Nat → Int32} {N : Nat → Nat} {Q : Nat → Nat → Nat} {i t x : Nat} (ht : t ≤ 3000) (hx : x ≤ 3000) (eF : F 0 = nI t) (eh : G 12 i = nI x) (st : G 10 i = 0 ∨ G 10 i = 2) :
    (vX6_settles F G N Q i = 0 ∧ sX6_settles F G N Q i = zSame F G N Q ∧ t < x + 3) ∨
    ((¬ vX6_settles F G N Q i = 0) ∧ x ≤ t ∧ (sX6_settles F G N Q i = zLose F G N Q i ∨ sX6_settles F G N Q i = zClm F G N Q i ∨ (G 10 i = 0 ∧ zCan6 F G N Q i 0 ∧ sX6_settles F G N Q i = zBeg F G N Q i 0) ∨ (G 10 i = 2 ∧ zCan6 F G N Q i 1 ∧ sX6_settles F G N Q i = zBeg F G N Q i 1))) := by
  obtain ⟨o, ho, ho3⟩ : ∃ o : Int32, ((G 10 i = 2 ∧ o = 1) ∨ (¬ G 10 i = 2 ∧ o = 0)) ∧ ((G 10 i = 0 ∧ o = 0) ∨ (G 10 i = 2 ∧ o = 1)) := by
    rcases st with z | z
    · exact ⟨0, Or.inr ⟨by rw [z]; decide, rfl⟩, Or.inl ⟨z, rfl⟩⟩
    · exact ⟨1, Or.inl ⟨z, rfl⟩, Or.inr ⟨z, rfl⟩⟩
  obtain ⟨s1, s2, s3, s4⟩ := z_set6 (F := F) (G := G) (N := N) (Q := Q) (i := i) ht hx eF eh ho
  have n10 : ¬ (1 : Int32) = 0 := by decide
  by_cases q : x ≤ t
  · by_cases a : x = t ∧ vX5_carries F G N Q i o (nI t) = 0
    · obtain ⟨b1, b2⟩ := s2 a.1 a.2
      exact Or.inr ⟨by rw [b1]; exact n10, q, Or.inl b2⟩
    · by_cases b : vX5_carries F G N Q i o (nI t) = 0 ∨ ¬ zCan6 F G N Q i o
      · obtain ⟨u1, u2⟩ := s3 q a b
        by_cases e : t < x + 3
        · exact Or.inl ⟨(u1 e).1, (u1 e).2, e⟩
        · exact Or.inr ⟨by rw [(u2 e).1]; exact n10, q, Or.inr (Or.inl (u2 e).2)⟩
      · have b1 : ¬ vX5_carries F G N Q i o (nI t) = 0 := fun z => b (Or.inl z)
        have b2 : zCan6 F G N Q i o := Classical.not_not.mp (fun z => b (Or.inr z))
        obtain ⟨u1, u2⟩ := s4 q b1 b2
        refine Or.inr ⟨by rw [u1]; exact n10, q, Or.inr (Or.inr ?_)⟩
        rcases ho3 with ⟨z, e⟩ | ⟨z, e⟩
        · rw [e] at b2 u2; exact Or.inl ⟨z, b2, u2⟩
        · rw [e] at b2 u2; exact Or.inr ⟨z, b2, u2⟩
  · obtain ⟨b1, b2⟩ := s1 (by omega)
    exact Or.inl ⟨b1, b2, by omega⟩
/-- what the looks of one hour keep: a.. as the looks began -/
def zM9 (t n0 n1a : Nat) (g9 a10 a12 a14 a15 : Nat → Int32) (x1 x2 : Int32) (g4 g10 g12 g13 g14 g15 g16 g17 : Nat → Int32) (n1 : Nat) (q1 : Nat → Nat) : Prop :=
  x1 + x2 + zIs g4 6 = zIs g13 n0 ∧ zB n0 g9 g10 ∧
  (n1a ≤ n1 ∧ ∀ m, n1a ≤ m → m < n1 → g16 m = nI t ∧ q1 m < n0 ∧ g12 (q1 m) = -1 ∧ (∃ h, h ≤ t ∧ a12 (q1 m) = nI h) ∧ ((g17 m = 0 ∧ a10 (q1 m) = 0 ∧ g10 (q1 m) = 1) ∨ (g17 m = 1 ∧ a10 (q1 m) = 2 ∧ g10 (q1 m) = 3))) ∧
  (∀ s, s < n0 → (g12 s = a12 s ∧ g10 s = a10 s) ∨ ((¬ a12 s = -1) ∧ g12 s = -1 ∧ (g10 s = a10 s ∨ g10 s = a10 s + 1))) ∧
  ∃ dl dc : Nat → Nat, (∀ s, g14 s = a14 s + nI (dl s) ∧ g15 s = a15 s + nI (dc s)) ∧ zC (fun s => decide ((¬ a12 s = -1) ∧ g12 s = -1)) n0 = (n1 - n1a) + zSu dl n0 + zSu dc n0
theorem z_cnt1 {a g : Nat → Int32} {i n : Nat} (hi : i < n) (ha : ¬ a i = -1) (hg : ¬ g i = -1) : zC (fun s => decide ((¬ a s = -1) ∧ upd g i (-1) s = -1)) n = zC (fun s => decide ((¬ a s = -1) ∧ g s = -1)) n + 1 := by
  rw [zC_del (x := i) hi (by rw [up_s]; simp [ha])]
  congr 1
  refine zC_congr (fun j hj => ?_)
  by_cases c : j = i
  · rw [c]; simp [hg]
  · rw [up_n c]; simp [c]
section
variable {t n0 n1a : Nat} {g9 a10 a12 a14 a15 : Nat → Int32} {x1 x2 : Int32} {g4 g10 g12 g13 g14 g15 g16 g17 : Nat → Int32} {n1 : Nat} {q1 : Nat → Nat} {i x : Nat}
theorem z_m9a (h : zM9 t n0 n1a g9 a10 a12 a14 a15 x1 x2 g4 g10 g12 g13 g14 g15 g16 g17 n1 q1) (hi : i < n0) (ex : g12 i = nI x) (hx : x ≤ 3000) : a12 i = nI x ∧ a10 i = g10 i ∧ ¬ g12 i = -1 := by
  have hn : ¬ g12 i = -1 := by rw [ex]; exact z_m1 (by omega)
  rcases h.2.2.2.1 i hi with ⟨p, q⟩ | ⟨_, p, _⟩
  · exact ⟨p.symm.trans ex, q.symm, hn⟩
  · exact absurd p hn
theorem z_m9claim (h : zM9 t n0 n1a g9 a10 a12 a14 a15 x1 x2 g4 g10 g12 g13 g14 g15 g16 g17 n1 q1) (hi : i < n0) (ex : g12 i = nI x) (hx : x ≤ 3000) : zM9 t n0 n1a g9 a10 a12 a14 a15 x1 x2 g4 g10 (upd g12 i (-1)) g13 g14 (upd g15 i (g15 i + 1)) g16 g17 n1 q1 := by
  obtain ⟨ea, e10, hn⟩ := z_m9a h hi ex hx
  obtain ⟨m1, m2, ⟨m3, m4⟩, m5, dl, dc, m6, m7⟩ := h
  have hna : ¬ a12 i = -1 := by rw [ea, ← ex]; exact hn
  refine ⟨m1, m2, ⟨m3, fun m k1 k2 => ?_⟩, fun s hs => ?_, dl, zD1 dc i, fun s => ⟨(m6 s).1, ?_⟩, ?_⟩
  · obtain ⟨b1, b2, b3, b4, b5⟩ := m4 m k1 k2
    exact ⟨b1, b2, by rw [up_n (fun z => hn (by rw [← z]; exact b3))]; exact b3, b4, b5⟩
  · by_cases c : s = i
    · rw [c, up_s]; exact Or.inr ⟨hna, rfl, Or.inl e10.symm⟩
    · rw [up_n c]; exact m5 s hs
  · by_cases c : s = i
    · rw [c, up_s, zD1_s, (m6 i).2, nI_succ, Int32.add_assoc]
    · rw [up_n c, zD1_n c]; exact (m6 s).2
  · rw [z_cnt1 hi hna hn, m7, zSu_up hi]; omega
theorem z_m9lose (h : zM9 t n0 n1a g9 a10 a12 a14 a15 x1 x2 g4 g10 g12 g13 g14 g15 g16 g17 n1 q1) (hi : i < n0) (ex : g12 i = nI x) (hx : x ≤ 3000) {r0 r1 : Nat} (h0 : r0 < 6) (h1 : r1 < 6) {y : Int32} (ey : y = upd g4 r0 (g4 r0 + 50) r1 + 50) : zM9 t n0 n1a g9 a10 a12 a14 a15 x1 x2 (upd (upd g4 r0 (g4 r0 + 50)) r1 y) g10 (upd g12 i (-1)) (upd g13 i (g13 i + 50 + 50)) (upd g14 i (g14 i + 1)) g15 g16 g17 n1 q1 := by
  obtain ⟨ea, e10, hn⟩ := z_m9a h hi ex hx
  obtain ⟨m1, m2, ⟨m3, m4⟩, m5, dl, dc, m6, m7⟩ := h
  have hna : ¬ a12 i = -1 := by rw [ea, ← ex]; exact hn
  refine ⟨?_, m2, ⟨m3, fun m k1 k2 => ?_⟩, fun s hs => ?_, zD1 dl i, dc, fun s => ⟨?_, (m6 s).2⟩, ?_⟩
  · rw [zIs_up (d := 50) ey h1, zIs_up (d := 50) rfl h0, zIs_up (d := 100) (by rw [Int32.add_assoc]; rfl) hi, ← m1]
    have e100 : (100 : Int32) = 50 + 50 := by decide
    rw [e100]
    grind
  · obtain ⟨b1, b2, b3, b4, b5⟩ := m4 m k1 k2
    exact ⟨b1, b2, by rw [up_n (fun z => hn (by rw [← z]; exact b3))]; exact b3, b4, b5⟩
  · by_cases c : s = i
    · rw [c, up_s]; exact Or.inr ⟨hna, rfl, Or.inl e10.symm⟩
    · rw [up_n c]; exact m5 s hs
  · by_cases c : s = i
    · rw [c, up_s, zD1_s, (m6 i).1, nI_succ, Int32.add_assoc]
    · rw [up_n c, zD1_n c]; exact (m6 s).1
  · rw [z_cnt1 hi hna hn, m7, zSu_up hi]; omega
theorem z_m9beg (h : zM9 t n0 n1a g9 a10 a12 a14 a15 x1 x2 g4 g10 g12 g13 g14 g15 g16 g17 n1 q1) (hi : i < n0) (ex : g12 i = nI x) (hx : x ≤ 3000) (hxt : x ≤ t) {p : Nat} (hp : p < 6) {o s' y1 y2 dg : Int32} (ho : (o = 0 ∧ g10 i = 0 ∧ s' = 1) ∨ (o = 1 ∧ g10 i = 2 ∧ s' = 3)) (hf : o = 0 → ∀ j, j < n0 → g9 j = g9 i → g10 j = 0 ∨ g10 j = 4) (ed : y1 + y2 + 50 = x1 + x2 + dg) {z : Int32} (ez : z = g13 i + dg) : zM9 t n0 n1a g9 a10 a12 a14 a15 y1 y2 (upd g4 p (g4 p + 50)) (upd g10 i s') (upd g12 i (-1)) (upd g13 i z) g14 g15 (upd g16 n1 (nI t)) (upd g17 n1 o) (n1 + 1) (va_up q1 n1 i) := by
  obtain ⟨ea, e10, hn⟩ := z_m9a h hi ex hx
  obtain ⟨m1, m2, ⟨m3, m4⟩, m5, dl, dc, m6, m7⟩ := h
  have hna : ¬ a12 i = -1 := by rw [ea, ← ex]; exact hn
  refine ⟨?_, ?_, ⟨by omega, fun m k1 k2 => ?_⟩, fun s hs => ?_, dl, dc, m6, ?_⟩
  · rw [zIs_up (d := 50) rfl hp, zIs_up (d := dg) ez hi, ← m1]
    grind
  · intro j k hj hk hne e9 pj pk
    rcases ho with ⟨o1, o2, o3⟩ | ⟨o1, o2, o3⟩
    · have fr := hf o1
      have nz : ∀ s : Int32, s = 0 ∨ s = 4 → ¬ zBz s := fun s q z => by
        rcases q with q | q <;> rw [q] at z <;> rcases z with z | z | z <;> exact absurd z (by decide)
      by_cases c : j = i
      · have ck : ¬ k = i := fun z => hne (by rw [c, z])
        rw [up_n ck] at pk
        exact nz _ (fr k hk (by rw [← e9, c])) pk
      · by_cases c2 : k = i
        · rw [up_n c] at pj
          exact nz _ (fr j hj (by rw [e9, c2])) pj
        · rw [up_n c] at pj
          rw [up_n c2] at pk
          exact m2 j k hj hk hne e9 pj pk
    · have b2 : zBz (g10 i) := by rw [o2]; exact Or.inr (Or.inl rfl)
      by_cases c : j = i
      · have ck : ¬ k = i := fun z => hne (by rw [c, z])
        rw [up_n ck] at pk
        exact m2 j k hj hk hne e9 (by rw [c]; exact b2) pk
      · rw [up_n c] at pj
        by_cases c2 : k = i
        · exact m2 j k hj hk hne e9 pj (by rw [c2]; exact b2)
        · rw [up_n c2] at pk
          exact m2 j k hj hk hne e9 pj pk
  · by_cases c : m = n1
    · rw [c, up_s, up_s, up_same]
      refine ⟨rfl, hi, up_s, ⟨x, hxt, ea⟩, ?_⟩
      rw [up_s, e10]
      exact ho.imp (fun z => ⟨z.1, z.2.1, z.2.2⟩) (fun z => ⟨z.1, z.2.1, z.2.2⟩)
    · obtain ⟨b1, b2, b3, b4, b5⟩ := m4 m k1 (by omega)
      have ne : ¬ q1 m = i := fun z => hn (by rw [← z]; exact b3)
      rw [up_n c, up_n c, up_ne _ _ c, up_n ne, up_n ne]
      exact ⟨b1, b2, b3, b4, b5⟩
  · by_cases c : s = i
    · rw [c, up_s, up_s, e10]
      refine Or.inr ⟨hna, rfl, Or.inr ?_⟩
      rcases ho with ⟨_, o2, o3⟩ | ⟨_, o2, o3⟩ <;> rw [o2, o3] <;> decide
    · rw [up_n c, up_n c]; exact m5 s hs
  · rw [z_cnt1 hi hna hn, m7]; omega
end
end
