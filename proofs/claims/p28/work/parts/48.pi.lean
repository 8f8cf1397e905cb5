section
def zCan7 (f : Nat → Int32) (g : Nat → Nat → Int32) (i : Nat) : Prop := (g 10 i = 2 ∨ ¬ vX7_isFree f g (g 9 i) = 0) ∧ (¬ (100 : Int32) ≤ f 20) ∧ (¬ vX7_firstReady f g = -1) ∧ ¬ vX7_many (vX7_tugsNow f g) < g 6 i
theorem z_lk7 {f : Nat → Int32} {g : Nat → Nat → Int32} {i : Nat} (hi : i < 2 ^ 31) :
    (g 11 i = f 1 → vX7_floats f g (nI i) (f 1) = 0 → sX7_looksAt f g (nI i) = ((sX7_loses f g (nI i)).1, (sX7_loses f g (nI i)).2)) ∧
    (¬ (g 11 i = f 1 ∧ vX7_floats f g (nI i) (f 1) = 0) → (vX7_floats f g (nI i) (f 1) = 0 ∨ ¬ zCan7 f g i) → sX7_looksAt f g (nI i) = if f 1 - g 11 i < (3 : Int32) then (f, g) else (f, hu (hu g 15 (upd (g 15) i (g 15 i + (1 : Int32)))) 11 (upd (g 11) i (-1)))) ∧
    (¬ vX7_floats f g (nI i) (f 1) = 0 → zCan7 f g i → sX7_looksAt f g (nI i) = ((sX7_begins f g (nI i)).1, (sX7_begins f g (nI i)).2)) := by
  rw [sX7_looksAt, nI_clamp hi]
  refine ⟨fun a b => by rw [if_pos b, if_pos a], fun a b => ?_, fun a b => ?_⟩
  · by_cases c : vX7_floats f g (nI i) (f 1) = 0
    · rw [if_pos c, if_neg (fun z => a ⟨z, c⟩)]
    · have nc := b.resolve_left c
      rw [if_neg c]
      by_cases c1 : g 10 i = 2
      · rw [if_pos c1]
        by_cases c2 : (100 : Int32) ≤ f 20
        · rw [if_pos c2]
        · rw [if_neg c2]
          by_cases c3 : vX7_firstReady f g = -1
          · rw [if_pos c3]
          · rw [if_neg c3]
            by_cases c4 : vX7_many (vX7_tugsNow f g) < g 6 i
            · rw [if_pos c4]
            · exact absurd ⟨Or.inl c1, c2, c3, c4⟩ nc
      · rw [if_neg c1]
        by_cases c0 : vX7_isFree f g (g 9 i) = 0
        · rw [if_pos c0]
        · rw [if_neg c0]
          by_cases c2 : (100 : Int32) ≤ f 20
          · rw [if_pos c2]
          · rw [if_neg c2]
            by_cases c3 : vX7_firstReady f g = -1
            · rw [if_pos c3]
            · rw [if_neg c3]
              by_cases c4 : vX7_many (vX7_tugsNow f g) < g 6 i
              · rw [if_pos c4]
              · exact absurd ⟨Or.inr c0, c2, c3, c4⟩ nc
  · obtain ⟨b1, b2, b3, b4⟩ := b
    rw [if_neg a, if_neg b2, if_neg b3, if_neg b4]
    by_cases c1 : g 10 i = 2
    · rw [if_pos c1]
    · rw [if_neg c1, if_neg (b1.resolve_left c1)]
theorem z_can {t : Nat} {F : Nat → Int32} {G : Nat → Nat → Int32} {N : Nat → Nat} {Q : Nat → Nat → Nat} {f : Nat → Int32} {g : Nat → Nat → Int32} {i : Nat} {o : Int32} (h : zR t F G N Q f g) (hi : i < N 0) (ho : (G 10 i = 2 ∧ o = 1) ∨ (G 10 i = 0 ∧ o = 0)) :
    (zCan6 F G N Q i o ↔ zCan7 f g i) ∧ (zCan6 F G N Q i o → ∃ p w k, p < 6 ∧ vX7_firstReady f g = nI p ∧ vX6_firstReadyPilot F G N Q = G 3 p ∧ (¬ vX0_pilotIsReady F G N Q (G 3 p) (nI t) (N 1) = 0) ∧ w < 64 ∧ vX0_readyTugs F G N Q (nI t) (N 1) = nI w ∧ vX7_tugsNow f g = nI w ∧ k < 4 ∧ G 6 i = nI (k + 1) ∧ ¬ vX7_many (nI w) < nI (k + 1)) := by
  obtain ⟨⟨ht, eF, f1, f18, f19, f5, f20⟩, hW, ⟨p1, p2, p3⟩, ⟨k0, k1, k6, k7, k8, k9⟩, ⟨e10, e12, e13, e14, e15⟩, hS, hZ, ⟨m1, m2, m3, m4, m5, m6, m7, m8⟩, hO⟩ := h
  obtain ⟨w, hw, w6, w7⟩ := z_tgE (F := F) (N := N) (Q := Q) (f := f) (g := g) (show t ≤ 3001 by omega) m1 m2 m3 f1 f20 m5 m8
  obtain ⟨k, hk, ek⟩ := (k1 i hi).2.1
  have fst := z_first (F := F) (G := G) (N := N) (Q := Q) (f := f) (g := g) (rd := fun p => zPR (G 16) (G 18) p t (N 1)) (fun p => by rw [eF]; exact z_pr0 p (by omega) m1 m2) (fun p => by rw [z_pr7 p (show t ≤ 3001 by omega) m1 f1 f20 (zHo_congr m5 m2)]; exact (zPR_congr m5 m7).symm) p1
  have e6 : g 6 i = nI (k + 1) := (k6 i hi).symm.trans ek
  have c100 : (nI (N 1) < (100 : Int32)) ↔ N 1 < 100 := nI_ltI (b := 100) (by omega) (by omega)
  have d100 : ((100 : Int32) ≤ f 20) ↔ 100 ≤ N 1 := by rw [f20]; exact nI_leI (a := 100) (by omega) (by omega)
  have fr : (o = 0 → ¬ vX6_berthIsFreeNow F G N Q (G 9 i) = 0) ↔ (g 10 i = 2 ∨ ¬ vX7_isFree f g (g 9 i) = 0) := by
    have q : (∀ j, j < N 0 → G 9 j = G 9 i → G 10 j = 0 ∨ G 10 j = 4) ↔ (∀ j, j < N 0 → g 9 j = g 9 i → g 10 j = 0 ∨ g 10 j = 4) := by
      constructor
      · intro z j hj e
        rw [← e10 j hj]; exact z j hj (by rw [k9 j hj, k9 i hi]; exact e)
      · intro z j hj e
        rw [e10 j hj]; exact z j hj (by rw [← k9 j hj, ← k9 i hi]; exact e)
    rcases ho with ⟨a, b⟩ | ⟨a, b⟩
    · exact ⟨fun _ => Or.inl ((e10 i hi).symm.trans a), fun _ z => by rw [b] at z; exact absurd z (by decide)⟩
    · have n2 : ¬ g 10 i = 2 := by rw [← e10 i hi, a]; decide
      rw [z_free6, z_free7 k0 f5, ← q]
      exact ⟨fun z => Or.inr (z b), fun z _ => z.resolve_left n2⟩
  have tg : (¬ vX6_lowestOf (vX0_readyTugs F G N Q (F 0) (N 1)) (G 6 i) = 0) ↔ ¬ vX7_many (vX7_tugsNow f g) < g 6 i := by
    rw [eF, w6, w7, ek, e6]
    by_cases c : vX7_many (nI w) < nI (k + 1)
    · exact ⟨fun z => absurd (z_low1 w hw k hk c) z, fun z => absurd c z⟩
    · exact ⟨fun _ => c, fun _ => z_low3 w hw k hk c⟩
  have fs : (¬ vX6_firstReadyPilot F G N Q = -1) ↔ ¬ vX7_firstReady f g = -1 := by
    rcases fst with ⟨a, b⟩ | ⟨p, hp, a, b, c⟩
    · rw [a, b]
    · obtain ⟨v, hv, ev⟩ := vp_in_of (p3.1 p hp) (by decide)
      rw [a, b, ev]
      exact ⟨fun _ => z_m1 (by omega), fun _ => z_m1 (by omega)⟩
  refine ⟨?_, fun c => ?_⟩
  · rw [zCan6, zCan7, fr, tg, fs, c100, d100]
    constructor
    · rintro ⟨a1, a2, a3, a4⟩; exact ⟨a2, by omega, a3, a4⟩
    · rintro ⟨a2, a1, a3, a4⟩; exact ⟨by omega, a2, a3, a4⟩
  · rcases fst with ⟨a, b⟩ | ⟨p, hp, a, b, d⟩
    · exact absurd a c.2.2.1
    · refine ⟨p, w, k, hp, a, b, ?_, hw, w6, w7, hk, ek, ?_⟩
      · rw [z_pr0 (G 3 p) (show t ≤ 3001 by omega) m1 m2]; exact d
      · have := tg.mp c.2.2.2
        rw [w7, e6] at this; exact this
def zwF (F : Nat → Int32) (S : Nat × (Nat → Nat) × Int32 × Int32 × (Nat → Int32) × (Nat → Int32) × (Nat → Int32) × (Nat → Int32) × (Nat → Int32) × (Nat → Int32) × (Nat → Int32) × (Nat → Int32) × (Nat → Int32) × (Nat → Int32) × (Nat → Int32)) : Nat → Int32 := hu (hu F 1 S.2.2.1) 2 S.2.2.2.1
def zwG (G : Nat → Nat → Int32) (S : Nat × (Nat → Nat) × Int32 × Int32 × (Nat → Int32) × (Nat → Int32) × (Nat → Int32) × (Nat → Int32) × (Nat → Int32) × (Nat → Int32) × (Nat → Int32) × (Nat → Int32) × (Nat → Int32) × (Nat → Int32) × (Nat → Int32)) (i : Nat) : Nat → Nat → Int32 := hu (hu (hu (hu (hu (hu (hu (hu (hu (hu (hu (hu G 3 S.2.2.2.2.1) 4 S.2.2.2.2.2.1) 10 S.2.2.2.2.2.2.1) 11 S.2.2.2.2.2.2.2.1) 12 (upd (G 12) i (-1))) 13 S.2.2.2.2.2.2.2.2.1) 14 S.2.2.2.2.2.2.2.2.2.1) 15 S.2.2.2.2.2.2.2.2.2.2.1) 16 S.2.2.2.2.2.2.2.2.2.2.2.1) 17 S.2.2.2.2.2.2.2.2.2.2.2.2.1) 18 S.2.2.2.2.2.2.2.2.2.2.2.2.2.1) 19 S.2.2.2.2.2.2.2.2.2.2.2.2.2.2
theorem z_sdr {F F' : Nat → Int32} {G G' : Nat → Nat → Int32} {N N' : Nat → Nat} {Q Q' : Nat → Nat → Nat} {m t : Nat} (ht : t ≤ 3001) (hh : zHo (G 16) t (N 1)) (hm : m < N 1) (h0 : G 0 = G' 0) (h1 : G 1 = G' 1) (h2 : G 2 = G' 2) (h7 : G 7 = G' 7) (h9 : G 9 = G' 9) (h16 : ∀ k, k ≤ m → G 16 k = G' 16 k) (h17 : ∀ k, k ≤ m → G 17 k = G' 17 k) (h18 : ∀ k, k ≤ m → G 18 k = G' 18 k) (h19 : ∀ k, k ≤ m → G 19 k = G' 19 k) (hq : ∀ k, k ≤ m → Q 1 k = Q' 1 k) (hs : zSd F G N Q m) : zSd F' G' N' Q' m := by
  obtain ⟨e, l⟩ := zHo_at hh ht hm
  exact zSd_congr (h := zH (G 16) m) (by omega) e h0 (fun x _ => by rw [h1]) (by rw [h2]) (by rw [h7]) (fun k _ => by rw [h9]) h16 h17 h18 h19 hq hs
theorem z_newS {F F' : Nat → Int32} {G G' : Nat → Nat → Int32} {N N' : Nat → Nat} {Q Q' : Nat → Nat → Nat} {t i n : Nat} {o p tg : Int32} (ht : t ≤ 3000) (en : N 1 = n) (hn : n ≤ 100) (hs : zSA F G N Q) (hh : zHo (G 16) t n) (hq : ∀ k, k < n → Q 1 k < N 0) (hO : zO (N 0) n t (G 10) (G 11) (G 16) (G 17) (Q 1))
    (n1 : N' 1 = n + 1) (h0 : G 0 = G' 0) (h1 : G 1 = G' 1) (h2 : G 2 = G' 2) (h7 : G 7 = G' 7) (h9 : G 9 = G' 9) (h16 : G' 16 = upd (G 16) n (nI t)) (h17 : G' 17 = upd (G 17) n o) (h18 : G' 18 = upd (G 18) n p) (h19 : G' 19 = upd (G 19) n tg) (q1 : Q' 1 = va_up (Q 1) n i)
    (hc : ¬ vX5_carries F G N Q i o (nI t) = 0) (hf : o = 0 → ∀ s, s < N 0 → G 9 s = G 9 i → G 10 s = 0 ∨ G 10 s = 4) (hp : ¬ vX0_pilotIsReady F G N Q p (nI t) n = 0) (htg : (tg &&& (vX0_readyTugs F G N Q (nI t) n ^^^ (-1 : Int32))) = 0) : zSA F' G' N' Q' := by
  intro m hm
  rw [n1] at hm
  by_cases c : m = n
  · rw [c, zSd, q1, up_same, h16, up_s, h17, up_s, h18, up_s, h19, up_s]
    have b16 : ∀ k, k < n → G 16 k = G' 16 k := fun k hk => by rw [h16, up_n (by omega)]
    have b17 : ∀ k, k < n → G 17 k = G' 17 k := fun k hk => by rw [h17, up_n (by omega)]
    have b18 : ∀ k, k < n → G 18 k = G' 18 k := fun k hk => by rw [h18, up_n (by omega)]
    have b19 : ∀ k, k < n → G 19 k = G' 19 k := fun k hk => by rw [h19, up_n (by omega)]
    refine ⟨?_, fun z => ?_, ?_, ?_⟩
    · rw [← z_caC (F := F) (G := G) (N := N) (Q := Q) (show t ≤ 3001 by omega) h0 (fun x _ => by rw [h1]) (by rw [h7]) (by rw [h9]) (by rw [h2])]
      exact hc
    · rw [← h9, ← z_bfC (F := F) (G := G) (N := N) (Q := Q) (fun k hk => by rw [h9, q1, up_ne _ _ (show k ≠ n by omega)]) b16 b17]
      exact z_bf (by omega) hn hq hh hO (hf z)
    · rw [← z_prC (F := F) (G := G) (N := N) (Q := Q) b16 b18]
      exact hp
    · rw [← z_rtC (F := F) (G := G) (N := N) (Q := Q) b16 b19]
      exact htg
  · have mn : m < n := by omega
    exact z_sdr (F := F) (G := G) (N := N) (Q := Q) (t := t) (by omega) (by rw [en]; exact hh) (by omega) h0 h1 h2 h7 h9 (fun k hk => by rw [h16, up_n (by omega)]) (fun k hk => by rw [h17, up_n (by omega)]) (fun k hk => by rw [h18, up_n (by omega)]) (fun k hk => by rw [h19, up_n (by omega)]) (fun k hk => by rw [q1, up_ne _ _ (show k ≠ n by omega)]) (hs m (by omega))
end
