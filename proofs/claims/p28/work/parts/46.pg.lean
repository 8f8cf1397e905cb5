section
def zT (t : Nat) (x0 x1 x2 : Int32) (n0 n1 : Nat) (y1 y5 y18 y19 y20 : Int32) : Prop := t ≤ 3000 ∧ x0 = nI t ∧ y1 = nI t ∧ y18 = x1 ∧ y19 = x2 ∧ y5 = nI n0 ∧ y20 = nI n1
def zP (g3 g4 r16 r17 : Nat → Int32) : Prop := zAg 6 g3 r16 ∧ zAg 6 g4 r17 ∧ zPm g3
def zK (n0 : Nat) (g5 g6 g7 g8 g9 r6 r7 r8 r9 : Nat → Int32) : Prop := n0 ≤ 30 ∧ (∀ j, j < n0 → g5 j = nI j ∧ (∃ k, k < 4 ∧ g6 j = nI (k + 1)) ∧ vp_in (g9 j) 6) ∧ zAg n0 g6 r6 ∧ zAg n0 g7 r7 ∧ zAg n0 g8 r8 ∧ zAg n0 g9 r9
def zE (n0 : Nat) (g10 g12 g13 g14 g15 r10 r11 r13 r14 r15 : Nat → Int32) : Prop := zAg n0 g10 r10 ∧ zAg n0 g12 r11 ∧ zAg n0 g13 r13 ∧ zAg n0 g14 r14 ∧ zAg n0 g15 r15
def zS (n0 t : Nat) (g10 g11 g12 r12 : Nat → Int32) : Prop := ∀ j, j < n0 → (g10 j = 0 ∨ g10 j = 1 ∨ g10 j = 2 ∨ g10 j = 3 ∨ g10 j = 4) ∧ ((g10 j = 1 ∨ g10 j = 3) → g11 j = r12 j ∧ ∃ h, h ≤ t ∧ g11 j = nI h) ∧ (g12 j = -1 ∨ ((g10 j = 0 ∨ g10 j = 2) ∧ ∃ h, h ≤ 3000 ∧ g12 j = nI h))
def zZ (n0 : Nat) (r10 r13 r14 r15 : Nat → Int32) : Prop := ∀ j, n0 ≤ j → j < 30 → r10 j = 0 ∧ r13 j = 0 ∧ r14 j = 0 ∧ r15 j = 0
def zM (n0 n1 t : Nat) (g16 g17 g18 g19 : Nat → Int32) (q1 : Nat → Nat) (r21 r22 r23 r24 r25 : Nat → Int32) : Prop := n1 ≤ 100 ∧ zHo g16 t n1 ∧ zTg g19 n1 ∧ (∀ k, k < n1 → q1 k < n0 ∧ r22 k = nI (q1 k) ∧ (g17 k = 0 ∨ g17 k = 1) ∧ vp_in (g18 k) 6) ∧ zAg n1 g16 r21 ∧ zAg n1 g17 r25 ∧ zAg n1 g18 r23 ∧ zAg n1 g19 r24
def zR (t : Nat) (F : Nat → Int32) (G : Nat → Nat → Int32) (N : Nat → Nat) (Q : Nat → Nat → Nat) (f : Nat → Int32) (g : Nat → Nat → Int32) : Prop :=
  zT t (F 0) (F 1) (F 2) (N 0) (N 1) (f 1) (f 5) (f 18) (f 19) (f 20) ∧ zW (G 0) (G 1) (G 2) (g 2) (g 3) (g 4) ∧ zP (G 3) (G 4) (g 16) (g 17) ∧
  zK (N 0) (G 5) (G 6) (G 7) (G 8) (G 9) (g 6) (g 7) (g 8) (g 9) ∧ zE (N 0) (G 10) (G 12) (G 13) (G 14) (G 15) (g 10) (g 11) (g 13) (g 14) (g 15) ∧
  zS (N 0) t (G 10) (G 11) (G 12) (g 12) ∧ zZ (N 0) (g 10) (g 13) (g 14) (g 15) ∧ zM (N 0) (N 1) t (G 16) (G 17) (G 18) (G 19) (Q 1) (g 21) (g 22) (g 23) (g 24) (g 25) ∧
  zO (N 0) (N 1) t (G 10) (G 11) (G 16) (G 17) (Q 1)
def zSA (F : Nat → Int32) (G : Nat → Nat → Int32) (N : Nat → Nat) (Q : Nat → Nat → Nat) : Prop := ∀ m, m < N 1 → zSd F G N Q m
theorem zAg_out {n : Nat} {a b : Nat → Int32} (h : zAg n a b) {i : Nat} (hi : n ≤ i) (x : Int32) : zAg n a (upd b i x) := fun j hj => by rw [up_n (show j ≠ i by omega)]; exact h j hj
theorem zAg_ext {n : Nat} {a b : Nat → Int32} (h : zAg n a b) {x y : Int32} (e : x = y) : zAg (n + 1) (upd a n x) (upd b n y) := by
  intro j hj
  by_cases q : j = n
  · rw [q, up_s, up_s]; exact e
  · rw [up_n q, up_n q]; exact h j (by omega)
theorem zHo_ext {g : Nat → Int32} {t n : Nat} (ht : t ≤ 3001) (h : zHo g t n) : zHo (upd g n (nI t)) t (n + 1) := by
  have e : ∀ j, ¬ j = n → zH (upd g n (nI t)) j = zH g j := fun j q => by rw [zH, zH, up_n q]
  have e2 : zH (upd g n (nI t)) n = t := by rw [zH, up_s, nI_clamp (by omega)]
  refine ⟨fun j hj => ?_, fun i j hij hj => ?_⟩
  · by_cases q : j = n
    · rw [q, up_s]; exact ⟨t, Nat.le_refl _, rfl⟩
    · rw [up_n q]; exact h.1 j (by omega)
  · by_cases q : j = n
    · rw [q, e2]
      by_cases r : i = n
      · rw [r, e2]; exact Nat.le_refl _
      · rw [e i r]; exact (zHo_at h ht (by omega)).2
    · rw [e j q, e i (by omega)]; exact h.2 i j hij (by omega)
theorem zHo_mono {g : Nat → Int32} {t t' n : Nat} (htt : t ≤ t') (h : zHo g t n) : zHo g t' n := ⟨fun j hj => by obtain ⟨x, hx, e⟩ := h.1 j hj; exact ⟨x, by omega, e⟩, h.2⟩
theorem zS_beg {n0 t i : Nat} {g10 g11 g12 r12 : Nat → Int32} {s : Int32} (h : zS n0 t g10 g11 g12 r12) (hs : s = 1 ∨ s = 3) : zS n0 t (upd g10 i s) (upd g11 i (nI t)) (upd g12 i (-1)) (upd r12 i (nI t)) := by
  intro j hj
  by_cases q : j = i
  · rw [q, up_s, up_s, up_s, up_s]
    refine ⟨?_, fun _ => ⟨rfl, t, Nat.le_refl _, rfl⟩, Or.inl rfl⟩
    rcases hs with e | e <;> rw [e] <;> decide
  · rw [up_n q, up_n q, up_n q, up_n q]; exact h j hj
theorem zS_drop {n0 t i : Nat} {g10 g11 g12 r12 : Nat → Int32} (h : zS n0 t g10 g11 g12 r12) : zS n0 t g10 g11 (upd g12 i (-1)) r12 := by
  intro j hj
  by_cases q : j = i
  · rw [q, up_s]
    rw [q] at hj
    exact ⟨(h i hj).1, (h i hj).2.1, Or.inl rfl⟩
  · rw [up_n q]; exact h j hj
theorem zZ_up {n0 i : Nat} {r10 r13 r14 r15 : Nat → Int32} (h : zZ n0 r10 r13 r14 r15) (hi : i < n0) (a b c d : Int32) : zZ n0 (upd r10 i a) (upd r13 i b) (upd r14 i c) (upd r15 i d) := by
  intro j hj hj2
  rw [up_n (by omega), up_n (by omega), up_n (by omega), up_n (by omega)]; exact h j hj hj2
theorem z_upid {f : Nat → Int32} {i : Nat} : upd f i (f i) = f := by
  funext j
  by_cases q : j = i
  · rw [q, up_s]
  · rw [up_n q]
theorem zM_ext {n0 n1 t i w : Nat} {g16 g17 g18 g19 : Nat → Int32} {q1 : Nat → Nat} {r21 r22 r23 r24 r25 : Nat → Int32} {o p tg : Int32} (h : zM n0 n1 t g16 g17 g18 g19 q1 r21 r22 r23 r24 r25) (ht : t ≤ 3000) (hn : n1 < 100) (hi : i < n0) (ho : o = 0 ∨ o = 1) (hp : vp_in p 6) (hw : w < 64) (htg : tg = nI w) : zM n0 (n1 + 1) t (upd g16 n1 (nI t)) (upd g17 n1 o) (upd g18 n1 p) (upd g19 n1 tg) (va_up q1 n1 i) (upd r21 n1 (nI t)) (upd r22 n1 (nI i)) (upd r23 n1 p) (upd r24 n1 tg) (upd r25 n1 o) := by
  obtain ⟨h1, h2, h3, h4, h5, h6, h7, h8⟩ := h
  refine ⟨by omega, zHo_ext (by omega) h2, fun k hk => ?_, fun k hk => ?_, zAg_ext h5 rfl, zAg_ext h6 rfl, zAg_ext h7 rfl, zAg_ext h8 rfl⟩
  · by_cases q : k = n1
    · rw [q, up_s]; exact ⟨w, hw, htg⟩
    · rw [up_n q]; exact h3 k (by omega)
  · by_cases q : k = n1
    · rw [q, up_s, up_s, up_s, up_same]; exact ⟨hi, rfl, ho, hp⟩
    · rw [up_n q, up_n q, up_n q, up_ne _ _ q]; exact h4 k (by omega)
theorem zO_beg {n0 n1 t i : Nat} {g10 g11 g16 g17 : Nat → Int32} {q1 : Nat → Nat} {o st : Int32} (ht : t ≤ 3000) (hh : zHo g16 t n1) (h : zO n0 n1 t g10 g11 g16 g17 q1) (hc : (o = 0 ∧ g10 i = 0 ∧ st = 1) ∨ (o = 1 ∧ g10 i = 2 ∧ st = 3)) : zO n0 (n1 + 1) t (upd g10 i st) (upd g11 i (nI t)) (upd g16 n1 (nI t)) (upd g17 n1 o) (va_up q1 n1 i) := by
  intro s hs
  obtain ⟨o1, o2, o3, o4⟩ := h s hs
  have k1 : ∀ k, k < n1 → zIn (upd g17 n1 o) (va_up q1 n1 i) s k = zIn g17 q1 s k := fun k hk => by rw [zIn, zIn, up_n (show k ≠ n1 by omega), up_ne _ _ (show k ≠ n1 by omega)]
  have k2 : ∀ k, k < n1 → zOu (upd g17 n1 o) (va_up q1 n1 i) s k = zOu g17 q1 s k := fun k hk => by rw [zOu, zOu, up_n (show k ≠ n1 by omega), up_ne _ _ (show k ≠ n1 by omega)]
  have l1 : zIn (upd g17 n1 o) (va_up q1 n1 i) s n1 = decide (i = s ∧ o = 0) := by rw [zIn, up_s, up_same]
  have l2 : zOu (upd g17 n1 o) (va_up q1 n1 i) s n1 = decide (i = s ∧ ¬ o = 0) := by rw [zOu, up_s, up_same]
  have e : ∀ k, ¬ k = n1 → zH (upd g16 n1 (nI t)) k = zH g16 k := fun j q => by rw [zH, zH, up_n q]
  by_cases c : s = i
  · rw [c, up_s, up_s]
    rw [c] at k1 k2 l1 l2 o1 o2
    have m4 : ∀ k, k < n1 + 1 → va_up q1 n1 i k = i → zH (upd g16 n1 (nI t)) k ≤ (nI t).toNatClampNeg := by
      intro k hk _
      rw [nI_clamp (by omega)]
      by_cases q : k = n1
      · rw [q, zH, up_s, nI_clamp (by omega)]; exact Nat.le_refl _
      · rw [e k q]; exact (zHo_at hh (by omega) (by omega)).2
    rcases hc with ⟨a, b, d⟩ | ⟨a, b, d⟩
    · rw [b, if_pos rfl] at o1
      rw [b, if_neg (by decide)] at o2
      rw [zC_t (l1.trans (decide_eq_true ⟨rfl, a⟩)), zC_f (l2.trans (decide_eq_false (fun z => z.2 a))), zC_congr k1, zC_congr k2, o1, o2, d]
      exact ⟨by decide, by decide, fun z => absurd z (by decide), fun _ => m4⟩
    · rw [b, if_neg (by decide)] at o1
      rw [b, if_neg (by decide)] at o2
      rw [zC_f (l1.trans (decide_eq_false (fun z => by rw [a] at z; exact absurd z.2 (by decide)))), zC_t (l2.trans (decide_eq_true ⟨rfl, by rw [a]; decide⟩)), zC_congr k1, zC_congr k2, o1, o2, d]
      exact ⟨by decide, by decide, fun z => absurd z (by decide), fun _ => m4⟩
  · rw [up_n c, up_n c, zC_f (l1.trans (decide_eq_false (fun z => c z.1.symm))), zC_f (l2.trans (decide_eq_false (fun z => c z.1.symm))), zC_congr k1, zC_congr k2]
    refine ⟨o1, o2, fun z k hk hq => ?_, fun z k hk hq => ?_⟩
    · by_cases q : k = n1
      · rw [q, up_same] at hq; exact absurd hq.symm c
      · rw [up_ne _ _ q] at hq
        rw [e k q]; exact o3 z k (by omega) hq
    · by_cases q : k = n1
      · rw [q, up_same] at hq; exact absurd hq.symm c
      · rw [up_ne _ _ q] at hq
        rw [e k q]; exact o4 z k (by omega) hq
end
