section
def zIn (g17 : Nat → Int32) (q : Nat → Nat) (s k : Nat) : Bool := decide (q k = s ∧ g17 k = 0)
def zOu (g17 : Nat → Int32) (q : Nat → Nat) (s k : Nat) : Bool := decide (q k = s ∧ ¬ g17 k = 0)
def zO (n0 n1 t : Nat) (g10 g11 g16 g17 : Nat → Int32) (q1 : Nat → Nat) : Prop := ∀ s, s < n0 → zC (zIn g17 q1 s) n1 = (if g10 s = 0 then 0 else 1) ∧ zC (zOu g17 q1 s) n1 = (if g10 s = 3 ∨ g10 s = 4 then 1 else 0) ∧ (g10 s = 4 → ∀ k, k < n1 → q1 k = s → zH g16 k + 2 ≤ t) ∧ ((g10 s = 1 ∨ g10 s = 3) → ∀ k, k < n1 → q1 k = s → zH g16 k ≤ (g11 s).toNatClampNeg)
def zSu (a : Nat → Nat) : Nat → Nat
  | 0 => 0
  | n + 1 => zSu a n + a n
theorem zSu_congr {a b : Nat → Nat} {n : Nat} (h : ∀ j, j < n → a j = b j) : zSu a n = zSu b n := by
  induction n with
  | zero => rfl
  | succ n ih => rw [zSu, zSu, ih (fun j hj => h j (by omega)), h n (by omega)]
theorem zSu_add {a b : Nat → Nat} {n : Nat} : zSu (fun s => a s + b s) n = zSu a n + zSu b n := by
  induction n with
  | zero => rfl
  | succ n ih => rw [zSu, zSu, zSu, ih]; omega
theorem zSu_0 {n : Nat} : zSu (fun _ => 0) n = 0 := by
  induction n with
  | zero => rfl
  | succ n ih => rw [zSu, ih]
theorem zSu_one {x m : Nat} (hx : x < m) (b : Bool) : zSu (fun s => if (decide (x = s) && b) = true then 1 else 0) m = if b = true then 1 else 0 := by
  induction m with
  | zero => exact absurd hx (by omega)
  | succ m ih =>
    rw [zSu]
    by_cases c : x = m
    · have z : zSu (fun s => if (decide (x = s) && b) = true then 1 else 0) m = zSu (fun _ => 0) m := zSu_congr fun j hj => if_neg (by simp [show ¬ x = j by omega])
      rw [z, zSu_0, c]
      simp
    · rw [ih (by omega)]
      simp [c]
theorem z_part {c : Nat → Bool} {q : Nat → Nat} {m : Nat} : ∀ n, (∀ k, k < n → q k < m) → zC c n = zSu (fun s => zC (fun k => decide (q k = s) && c k) n) m := by
  intro n
  induction n with
  | zero => intro _; exact zSu_0.symm
  | succ n ih =>
    intro h
    have e : zSu (fun s => zC (fun k => decide (q k = s) && c k) (n + 1)) m = zSu (fun s => zC (fun k => decide (q k = s) && c k) n + (if (decide (q n = s) && c n) = true then 1 else 0)) m := rfl
    rw [e, zSu_add, ← ih (fun k hk => h k (by omega)), zSu_one (h n (by omega))]
    rfl
theorem z_bf {F : Nat → Int32} {G : Nat → Nat → Int32} {N : Nat → Nat} {Q : Nat → Nat → Nat} {n0 n t : Nat} {b : Int32} (ht : t ≤ 3001) (hn : n ≤ 100) (hq : ∀ k, k < n → Q 1 k < n0) (hh : zHo (G 16) t n) (ho : zO n0 n t (G 10) (G 11) (G 16) (G 17) (Q 1)) (hf : ∀ s, s < n0 → G 9 s = b → G 10 s = 0 ∨ G 10 s = 4) : ¬ vX0_berthIsFree F G N Q b (nI t) n = 0 := by
  have key := z_nfI (f := bX0_berthIsFree_6 F G N Q b (nI t) n) (a := (0 : Int32)) (fun k v => v + nI (zC (fun k => decide (G 9 (Q 1 k) = b ∧ ¬ G 17 k = 0 ∧ zH (G 16) k + 2 ≤ t)) k) = nI (zC (fun k => decide (G 9 (Q 1 k) = b ∧ G 17 k = 0)) k)) n (show (0 : Int32) + nI 0 = nI 0 by decide) (by
    intro k hk v hv
    obtain ⟨e1, e2⟩ := zHo_at hh ht hk
    have c2 : nI t - nI (zH (G 16) k) < (2 : Int32) ↔ t < zH (G 16) k + 2 := z_slt (c := 2) (by omega) e2 (by omega)
    rw [bX0_berthIsFree_6, e1]
    simp only [c2]
    by_cases a : G 9 (Q 1 k) = b
    · rw [if_pos a]
      by_cases d : G 17 k = 0
      · rw [if_pos d, zC_f (decide_eq_false (fun z => z.2.1 d)), zC_t (decide_eq_true ⟨a, d⟩), Int32.add_assoc, Int32.add_comm (Int32.ofInt 1), ← Int32.add_assoc, hv]
        exact nI_inc _
      · rw [if_neg d, zC_f (p := fun k => decide (G 9 (Q 1 k) = b ∧ G 17 k = 0)) (decide_eq_false (fun z => d z.2))]
        by_cases o : t < zH (G 16) k + 2
        · rw [if_pos o, zC_f (decide_eq_false (fun z => by omega))]
          exact hv
        · rw [if_neg o, zC_t (decide_eq_true ⟨a, d, by omega⟩), Int32.add_assoc, Int32.add_comm (Int32.ofInt (-1))]
          rw [show ∀ x, nI (x + 1) + Int32.ofInt (-1) = nI x from fun x => pk_m1 x]
          exact hv
    · rw [if_neg a, zC_f (decide_eq_false (fun z => a z.1)), zC_f (decide_eq_false (fun z => a z.1))]
      exact hv)
  have cnt : zC (fun k => decide (G 9 (Q 1 k) = b ∧ ¬ G 17 k = 0 ∧ zH (G 16) k + 2 ≤ t)) n = zC (fun k => decide (G 9 (Q 1 k) = b ∧ G 17 k = 0)) n := by
    rw [z_part n hq, z_part (c := fun k => decide (G 9 (Q 1 k) = b ∧ G 17 k = 0)) n hq]
    refine zSu_congr fun s hs => ?_
    obtain ⟨o1, o2, o3, _⟩ := ho s hs
    by_cases a : G 9 s = b
    · have i1 : zC (fun k => decide (Q 1 k = s) && decide (G 9 (Q 1 k) = b ∧ G 17 k = 0)) n = zC (zIn (G 17) (Q 1) s) n := zC_congr fun k hk => by
        rw [zIn, ← Bool.decide_and]
        exact decide_eq_decide.mpr ⟨fun z => ⟨z.1, z.2.2⟩, fun z => ⟨z.1, by rw [z.1]; exact a, z.2⟩⟩
      rw [i1, o1]
      rcases hf s hs a with st | st
      · rw [if_pos st]
        rw [st, if_neg (by decide)] at o2
        refine zC_0.mpr fun k hk => ?_
        have := zC_0.mp o2 k hk
        rw [zOu, decide_eq_false_iff_not] at this
        rw [← Bool.decide_and]
        exact decide_eq_false (fun z => this ⟨z.1, z.2.2.1⟩)
      · rw [st, if_neg (by decide)]
        rw [st, if_pos (Or.inr rfl)] at o2
        refine Eq.trans (zC_congr fun k hk => ?_) o2
        rw [zOu, ← Bool.decide_and]
        exact decide_eq_decide.mpr ⟨fun z => ⟨z.1, z.2.2.1⟩, fun z => ⟨z.1, by rw [z.1]; exact a, z.2, o3 st k hk z.1⟩⟩
    · rw [zC_0.mpr fun k hk => ?_, zC_0.mpr fun k hk => ?_]
      · rw [← Bool.decide_and]
        exact decide_eq_false (fun z => a (by rw [← z.1]; exact z.2.1))
      · rw [← Bool.decide_and]
        exact decide_eq_false (fun z => a (by rw [← z.1]; exact z.2.1))
  rw [cnt] at key
  rw [vX0_berthIsFree]
  have z0 : nf (bX0_berthIsFree_6 F G N Q b (nI t) n) (0 : Int32) n = 0 := by
    have := congrArg (fun x => x - nI (zC (fun k => decide (G 9 (Q 1 k) = b ∧ G 17 k = 0)) n)) key
    rw [Int32.add_sub_cancel, Int32.sub_self] at this
    exact this
  rw [z0, if_pos rfl]
  decide
theorem z_bkC {α ρ : Type} {f f' : Nat → α → α ⊕ ρ} {a : α} : ∀ {n : Nat}, (∀ j, j < n → ∀ v, f j v = f' j v) → bk f a n = bk f' a n := by
  intro n
  induction n with
  | zero => intro _; rfl
  | succ n ih =>
    intro h
    rw [bk, bk, ih (fun j hj => h j (by omega))]
    cases bk f' a n with
    | inl v => exact h n (by omega) v
    | inr r => rfl
theorem z_prC {F F' : Nat → Int32} {G G' : Nat → Nat → Int32} {N N' : Nat → Nat} {Q Q' : Nat → Nat → Nat} {p a : Int32} {n : Nat} (h16 : ∀ k, k < n → G 16 k = G' 16 k) (h18 : ∀ k, k < n → G 18 k = G' 18 k) : vX0_pilotIsReady F G N Q p a n = vX0_pilotIsReady F' G' N' Q' p a n := by
  rw [vX0_pilotIsReady, vX0_pilotIsReady, z_bkC (f' := bX0_pilotIsReady_18 F' G' N' Q' p a n)]
  intro j hj v
  rw [bX0_pilotIsReady_18, bX0_pilotIsReady_18, h16 _ (by omega), h18 _ (by omega)]
theorem z_rtC {F F' : Nat → Int32} {G G' : Nat → Nat → Int32} {N N' : Nat → Nat} {Q Q' : Nat → Nat → Nat} {a : Int32} {n : Nat} (h16 : ∀ k, k < n → G 16 k = G' 16 k) (h19 : ∀ k, k < n → G 19 k = G' 19 k) : vX0_readyTugs F G N Q a n = vX0_readyTugs F' G' N' Q' a n := by
  rw [vX0_readyTugs, vX0_readyTugs, z_bkC (f' := bX0_readyTugs_20 F' G' N' Q' a n)]
  intro j hj v
  rw [bX0_readyTugs_20, bX0_readyTugs_20, h16 _ (by omega), h19 _ (by omega)]
theorem z_bfC {F F' : Nat → Int32} {G G' : Nat → Nat → Int32} {N N' : Nat → Nat} {Q Q' : Nat → Nat → Nat} {b a : Int32} {n : Nat} (h9 : ∀ k, k < n → G 9 (Q 1 k) = G' 9 (Q' 1 k)) (h16 : ∀ k, k < n → G 16 k = G' 16 k) (h17 : ∀ k, k < n → G 17 k = G' 17 k) : vX0_berthIsFree F G N Q b a n = vX0_berthIsFree F' G' N' Q' b a n := by
  rw [vX0_berthIsFree, vX0_berthIsFree, z_nfC (f' := bX0_berthIsFree_6 F' G' N' Q' b a n)]
  intro j hj v
  rw [bX0_berthIsFree_6, bX0_berthIsFree_6, h9 j hj, h16 j hj, h17 j hj]
theorem z_caC {F F' : Nat → Int32} {G G' : Nat → Nat → Int32} {N N' : Nat → Nat} {Q Q' : Nat → Nat → Nat} {i h : Nat} {o : Int32} (hh : h ≤ 3001) (h0 : G 0 = G' 0) (h1 : ∀ x, x ≤ h + 1 → G 1 x = G' 1 x) (h7 : G 7 i = G' 7 i) (h9 : G 9 i = G' 9 i) (h2 : G 2 (G 9 i).toNatClampNeg = G' 2 (G 9 i).toNatClampNeg) : vX5_carries F G N Q i o (nI h) = vX5_carries F' G' N' Q' i o (nI h) := by
  have d0 : vX5_depthAt F G N Q (nI h) = vX5_depthAt F' G' N' Q' (nI h) := by
    rw [vX5_depthAt, vX5_depthAt, h0, nI_clamp (show h < 2 ^ 31 by omega), h1 h (by omega)]
  have d1 : vX5_depthAt F G N Q (nI h + (1 : Int32)) = vX5_depthAt F' G' N' Q' (nI h + (1 : Int32)) := by
    rw [nI_1, vX5_depthAt, vX5_depthAt, h0, nI_clamp (show h + 1 < 2 ^ 31 by omega), h1 (h + 1) (by omega)]
  rw [vX5_carries, vX5_carries, d0, d1, h2, h7, h9]
def zSd (F : Nat → Int32) (G : Nat → Nat → Int32) (N : Nat → Nat) (Q : Nat → Nat → Nat) (m : Nat) : Prop := (¬ vX5_carries F G N Q (Q 1 m) (G 17 m) (G 16 m) = 0) ∧ (G 17 m = 0 → ¬ vX0_berthIsFree F G N Q (G 9 (Q 1 m)) (G 16 m) m = 0) ∧ (¬ vX0_pilotIsReady F G N Q (G 18 m) (G 16 m) m = 0) ∧ (G 19 m &&& (vX0_readyTugs F G N Q (G 16 m) m ^^^ (-1 : Int32))) = 0
theorem zSd_congr {F F' : Nat → Int32} {G G' : Nat → Nat → Int32} {N N' : Nat → Nat} {Q Q' : Nat → Nat → Nat} {m h : Nat} (hh : h ≤ 3001) (eh : G 16 m = nI h) (h0 : G 0 = G' 0) (h1 : ∀ x, x ≤ h + 1 → G 1 x = G' 1 x) (h2 : G 2 (G 9 (Q 1 m)).toNatClampNeg = G' 2 (G 9 (Q 1 m)).toNatClampNeg) (h7 : G 7 (Q 1 m) = G' 7 (Q 1 m)) (h9 : ∀ k, k ≤ m → G 9 (Q 1 k) = G' 9 (Q 1 k)) (h16 : ∀ k, k ≤ m → G 16 k = G' 16 k) (h17 : ∀ k, k ≤ m → G 17 k = G' 17 k) (h18 : ∀ k, k ≤ m → G 18 k = G' 18 k) (h19 : ∀ k, k ≤ m → G 19 k = G' 19 k) (hq : ∀ k, k ≤ m → Q 1 k = Q' 1 k) (hs : zSd F G N Q m) : zSd F' G' N' Q' m := by
  obtain ⟨a1, a2, a3, a4⟩ := hs
  have r := Nat.le_refl m
  refine ⟨?_, fun z => ?_, ?_, ?_⟩
  · rw [← hq m r, ← h17 m r, ← h16 m r, eh, ← z_caC (F := F) (N := N) (Q := Q) (F' := F') (N' := N') (Q' := Q') (o := G 17 m) hh h0 h1 h7 (h9 m r) h2, ← eh]
    exact a1
  · rw [← hq m r, ← h16 m r, ← h9 m r, ← z_bfC (F := F) (G := G) (N := N) (Q := Q) (F' := F') (N' := N') (fun k hk => by rw [← hq k (by omega)]; exact h9 k (by omega)) (fun k hk => h16 k (by omega)) (fun k hk => h17 k (by omega))]
    exact a2 ((h17 m r).trans z)
  · rw [← h18 m r, ← h16 m r, ← z_prC (F := F) (G := G) (N := N) (Q := Q) (F' := F') (N' := N') (Q' := Q') (fun k hk => h16 k (by omega)) (fun k hk => h18 k (by omega))]
    exact a3
  · rw [← h19 m r, ← h16 m r, ← z_rtC (F := F) (G := G) (N := N) (Q := Q) (F' := F') (N' := N') (Q' := Q') (fun k hk => h16 k (by omega)) (fun k hk => h19 k (by omega))]
    exact a4
theorem z_snd {F : Nat → Int32} {G : Nat → Nat → Int32} {N : Nat → Nat} {Q : Nat → Nat → Nat} {m : Nat} (hn : N 1 ≤ 100) (hm : m < N 1) (h : zSd F G N Q m) : vX6_isSound F G N Q (nI m) = 1 ∧ eX6_isSound F G N Q (nI m) = 0 := by
  obtain ⟨a1, a2, a3, a4⟩ := h
  have ck : eX6_checkPlace (nI m) (nI (N 1)) = 0 := by
    rw [eX6_checkPlace, if_neg (nI_pos (by omega)), if_pos (nI_lt hm (by omega))]
  rw [vX6_isSound, eX6_isSound, nI_clamp (by omega), ck, if_pos rfl, if_pos rfl, if_neg a1, if_neg a1]
  by_cases c : G 17 m = 0
  · rw [if_pos c, if_pos c, if_neg (a2 c), if_neg (a2 c), if_neg a3, if_neg a3, if_pos a4, if_pos a4]
    exact ⟨rfl, rfl⟩
  · rw [if_neg c, if_neg c, if_neg a3, if_neg a3, if_pos a4, if_pos a4]
    exact ⟨rfl, rfl⟩
end
