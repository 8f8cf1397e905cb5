section
/-- the port's own invariant, at hour t -/
def zJ (t : Nat) (F : Nat → Int32) (G : Nat → Nat → Int32) (N : Nat → Nat) (Q : Nat → Nat → Nat) : Prop := ∃ f g, zR t F G N Q f g ∧ zSA F G N Q ∧ zQ (N 0) (N 2) (G 8) (G 12) (Q 0) ∧ RI f g
theorem zJ.I {t : Nat} {F : Nat → Int32} {G : Nat → Nat → Int32} {N : Nat → Nat} {Q : Nat → Nat → Nat} (h : zJ t F G N Q) : ∃ f g, zI F G N Q f g := by
  obtain ⟨f, g, h⟩ := h
  exact ⟨f, g, t, h⟩
theorem zJ.of {t : Nat} {F : Nat → Int32} {G : Nat → Nat → Int32} {N : Nat → Nat} {Q : Nat → Nat → Nat} {f : Nat → Int32} {g : Nat → Nat → Int32} (h : zI F G N Q f g) (ht : t ≤ 3000) (hF : F 0 = nI t) : zJ t F G N Q := by
  obtain ⟨t', h⟩ := h
  have e : t' = t := by
    have h1 := h.1.1
    exact (nI_eq (by have := h1.1; omega) (by omega)).mp (h1.2.1.symm.trans hF)
  subst e
  exact ⟨f, g, h⟩
section
variable {t : Nat} {F : Nat → Int32} {G : Nat → Nat → Int32} {N : Nat → Nat} {Q : Nat → Nat → Nat}
theorem zJ.tt (h : zJ t F G N Q) : t ≤ 3000 ∧ F 0 = nI t := by
  obtain ⟨f, g, ⟨h1, _⟩, _⟩ := h
  exact ⟨h1.1, h1.2.1⟩
theorem zJ.n0 (h : zJ t F G N Q) : N 0 ≤ 30 := by
  obtain ⟨f, g, ⟨_, _, _, hK, _⟩, _⟩ := h
  exact hK.1
theorem zJ.n1 (h : zJ t F G N Q) : N 1 ≤ 100 := by
  obtain ⟨f, g, ⟨_, _, _, _, _, _, _, hM, _⟩, _⟩ := h
  exact hM.1
theorem zJ.q (h : zJ t F G N Q) : zQ (N 0) (N 2) (G 8) (G 12) (Q 0) := by
  obtain ⟨f, g, _, _, hQ, _⟩ := h
  exact hQ
theorem zJ.n2 (h : zJ t F G N Q) : N 2 ≤ N 0 := zQ_le h.q
theorem zJ.sa (h : zJ t F G N Q) : zSA F G N Q := by
  obtain ⟨f, g, _, hS, _⟩ := h
  exact hS
theorem zJ.pm (h : zJ t F G N Q) : zPm (G 3) := by
  obtain ⟨f, g, ⟨_, _, hP, _⟩, _⟩ := h
  exact hP.2.2
theorem zJ.hb (h : zJ t F G N Q) : ∀ i, i < N 0 → vp_in (G 9 i) 6 := by
  obtain ⟨f, g, ⟨_, _, _, hK, _⟩, _⟩ := h
  exact fun i hi => (hK.2.1 i hi).2.2
theorem zJ.hr (h : zJ t F G N Q) : ∀ j, j < 6 → vp_in (G 3 j) 6 := h.pm.1
theorem zJ.hnow (h : zJ t F G N Q) : ct (F 0) 3000 := ⟨t, h.tt.1, h.tt.2⟩
theorem zJ.num (h : zJ t F G N Q) : ∀ i, i < N 0 → G 5 i = nI i := by
  obtain ⟨f, g, ⟨_, _, _, hK, _⟩, _⟩ := h
  exact fun i hi => (hK.2.1 i hi).1
theorem zJ.size (h : zJ t F G N Q) : ∀ i, i < N 0 → ∃ k, k < 4 ∧ G 6 i = nI (k + 1) := by
  obtain ⟨f, g, ⟨_, _, _, hK, _⟩, _⟩ := h
  exact fun i hi => (hK.2.1 i hi).2.1
theorem zJ.st (h : zJ t F G N Q) : ∀ j, j < N 0 → (G 10 j = 0 ∨ G 10 j = 1 ∨ G 10 j = 2 ∨ G 10 j = 3 ∨ G 10 j = 4) ∧ (G 12 j = -1 ∨ ((G 10 j = 0 ∨ G 10 j = 2) ∧ ∃ h, h ≤ 3000 ∧ G 12 j = nI h)) := by
  obtain ⟨f, g, ⟨_, _, _, _, _, hS, _⟩, _⟩ := h
  exact fun j hj => ⟨(hS j hj).1, (hS j hj).2.2⟩
theorem zJ.ho (h : zJ t F G N Q) : zHo (G 16) t (N 1) := by
  obtain ⟨f, g, ⟨_, _, _, _, _, _, _, hM, _⟩, _⟩ := h
  exact hM.2.1
theorem zJ.tg (h : zJ t F G N Q) : zTg (G 19) (N 1) := by
  obtain ⟨f, g, ⟨_, _, _, _, _, _, _, hM, _⟩, _⟩ := h
  exact hM.2.2.1
theorem zJ.mv (h : zJ t F G N Q) : ∀ k, k < N 1 → Q 1 k < N 0 ∧ (G 17 k = 0 ∨ G 17 k = 1) ∧ vp_in (G 18 k) 6 := by
  obtain ⟨f, g, ⟨_, _, _, _, _, _, _, hM, _⟩, _⟩ := h
  exact fun k hk => ⟨(hM.2.2.2.1 k hk).1, (hM.2.2.2.1 k hk).2.2⟩
theorem zJ.hmh (h : zJ t F G N Q) : ∀ j, j < N 1 → vp_in (G 16 j) 3001 := by
  intro j hj
  obtain ⟨x, hx, e⟩ := h.ho.1 j hj
  have := h.tt.1
  rw [e]; exact vp_in_nI (by omega) (by decide)
theorem zJ.zo (h : zJ t F G N Q) : zO (N 0) (N 1) t (G 10) (G 11) (G 16) (G 17) (Q 1) := by
  obtain ⟨f, g, ⟨_, _, _, _, _, _, _, _, hO⟩, _⟩ := h
  exact hO
end
variable {F : Nat → Int32} {G : Nat → Nat → Int32} {N : Nat → Nat} {Q : Nat → Nat → Nat}
theorem zv_cp {a n : Nat} (h : a < n) (hn : n < 2 ^ 31) : eX6_checkPlace (nI a) (nI n) = 0 := by
  rw [eX6_checkPlace, if_neg (nI_pos (by omega)), if_pos (nI_lt h hn)]
theorem zv_sh {k : Nat} (hk : k < N 0) (hn : N 0 ≤ 30) : eX6_shipAt F G N Q (nI k) = 0 := by
  rw [eX6_shipAt, if_pos (zv_cp hk (by omega))]
theorem zv_state {k : Nat} (hk : k < N 0) (hn : N 0 ≤ 30) : eX6_state F G N Q (nI k) = 0 ∧ vX6_state F G N Q (nI k) = G 10 k := by
  rw [eX6_state, vX6_state, if_pos (zv_sh hk hn), if_pos (zv_sh hk hn), nI_clamp (by omega)]
  exact ⟨rfl, rfl⟩
theorem zv_paid {k : Nat} (hk : k < N 0) (hn : N 0 ≤ 30) : eX6_paid F G N Q (nI k) = 0 ∧ vX6_paid F G N Q (nI k) = G 13 k := by
  rw [eX6_paid, vX6_paid, if_pos (zv_sh hk hn), if_pos (zv_sh hk hn), nI_clamp (by omega)]
  exact ⟨rfl, rfl⟩
theorem zv_lost {k : Nat} (hk : k < N 0) (hn : N 0 ≤ 30) : eX6_lost F G N Q (nI k) = 0 ∧ vX6_lost F G N Q (nI k) = G 14 k := by
  rw [eX6_lost, vX6_lost, if_pos (zv_sh hk hn), if_pos (zv_sh hk hn), nI_clamp (by omega)]
  exact ⟨rfl, rfl⟩
theorem zv_claims {k : Nat} (hk : k < N 0) (hn : N 0 ≤ 30) : eX6_claims F G N Q (nI k) = 0 ∧ vX6_claims F G N Q (nI k) = G 15 k := by
  rw [eX6_claims, vX6_claims, if_pos (zv_sh hk hn), if_pos (zv_sh hk hn), nI_clamp (by omega)]
  exact ⟨rfl, rfl⟩
theorem zv_rota {k : Nat} (hk : k < 6) : eX6_rota F G N Q (nI k) = 0 ∧ vX6_rota F G N Q (nI k) = G 3 k := by
  have e : eX6_checkPlace (nI k) (6 : Int32) = 0 := zv_cp hk (by decide)
  rw [eX6_rota, vX6_rota, if_pos e, if_pos e, nI_clamp (by omega)]
  exact ⟨rfl, rfl⟩
theorem zv_earned {k : Nat} (hk : k < 6) : eX6_earned F G N Q (nI k) = 0 ∧ vX6_earned F G N Q (nI k) = G 4 k := by
  have e : eX6_checkPlace (nI k) (6 : Int32) = 0 := zv_cp hk (by decide)
  rw [eX6_earned, vX6_earned, if_pos e, if_pos e, nI_clamp (by omega)]
  exact ⟨rfl, rfl⟩
theorem zv_isReady {k : Nat} (hk : k < 6) : eX6_isReady F G N Q (nI k) = 0 ∧ vX6_isReady F G N Q (nI k) = vX0_pilotIsReady F G N Q (nI k) (F 0) (N 1) := by
  have e : eX6_checkPlace (nI k) (6 : Int32) = 0 := zv_cp hk (by decide)
  rw [eX6_isReady, vX6_isReady, if_pos e, if_pos e]
  exact ⟨rfl, rfl⟩
theorem zv_dep {h : Nat} (hh : h < 2 ^ 31) : vX5_depthAt F G N Q (nI h) = G 0 (h % 12) + G 1 h := by
  have e : nI h - nI h / (12 : Int32) * (12 : Int32) = nI (h % 12) := pk_rem (d := 12) hh (by decide) (by decide)
  rw [vX5_depthAt, e, nI_clamp hh, nI_clamp (by omega)]
theorem zv_cr {a lo hi : Nat} (h1 : lo ≤ a) (h2 : a ≤ hi) (h3 : hi < 2 ^ 31) : eX6_checkRange (nI a) (nI lo) (nI hi) = 0 := by
  rw [eX6_checkRange, if_neg (nI_nlt h1 (by omega)), if_pos (nI_le h2 h3)]
theorem zv_depth {h : Nat} (hh : h ≤ 3100) : eX6_depth F G N Q (nI h) = 0 ∧ vX6_depth F G N Q (nI h) = G 0 (h % 12) + G 1 h := by
  have e : eX6_checkRange (nI h) (0 : Int32) (3100 : Int32) = 0 := zv_cr (lo := 0) (hi := 3100) (by omega) hh (by decide)
  rw [eX6_depth, vX6_depth, if_pos e, if_pos e, zv_dep (by omega)]
  exact ⟨rfl, rfl⟩
/-- the place of an order -/
theorem zv_queue {t k : Nat} (h : zJ t F G N Q) (hk : k < N 0) : eX6_queue F G N Q (nI k) = 0 ∧ (G 12 k = -1 → vX6_queue F G N Q (nI k) = -1) ∧ (∀ pr : Nat → Bool, ¬ G 12 k = -1 → (∀ s, s < N 0 → (pr s = true ↔ ¬ G 12 s = -1 ∧ zAh (G 8) (G 12) s k)) → vX6_queue F G N Q (nI k) = nI (zC pr (N 0))) ∧ (¬ G 12 k = -1 → ¬ vX6_queue F G N Q (nI k) = -1) := by
  have hn := h.n0
  have hq := h.q
  have h2 := h.n2
  have ps := pO_spec (F := F) (G := G) (N := N) (Q := Q) (i2 := k) (by omega)
  rw [eX6_queue, vX6_queue, if_pos (zv_sh hk hn), if_pos (zv_sh hk hn), nI_clamp (by omega)]
  have no : ¬ G 12 k = -1 → vX2_placeOf F G N Q k = nI (pO F G N Q k) ∧ pO F G N Q k < N 2 ∧ Q 0 (pO F G N Q k) = k := fun c => by
    rcases ps with ⟨_, y⟩ | ⟨x, y, z, _⟩
    · obtain ⟨i, hi, ei⟩ := hq.2.1 k hk c
      exact absurd ei (y i hi)
    · exact ⟨x, y, z⟩
  refine ⟨rfl, fun c => ?_, fun pr c hp => ?_, fun c => ?_⟩
  · rcases ps with ⟨x, _⟩ | ⟨_, x, y, _⟩
    · exact x
    · exact absurd c (by rw [← y]; exact (hq.1 _ x).2)
  · obtain ⟨x, y, z⟩ := no c
    rw [x]
    have := zQ_pos hq y (pr := pr) (fun s hs => by rw [hp s hs, z])
    rw [this]
  · obtain ⟨x, y, z⟩ := no c
    rw [x]
    exact z_m1 (by omega)
theorem zv_move {m : Nat} (hm : m < N 1) (hn : N 1 ≤ 100) (h5 : G 5 (Q 1 m) = nI (Q 1 m)) {h p o : Nat} (e16 : G 16 m = nI h) (e18 : G 18 m = nI p) (e17 : G 17 m = nI o) (ho : o < 2) : eX6_move F G N Q (nI m) = 0 ∧ vX6_move F G N Q (nI m) = nI (10000 * h + 100 * Q 1 m + 10 * p + o) := by
  have e : eX6_checkPlace (nI m) (nI (N 1)) = 0 := zv_cp hm (by omega)
  rw [eX6_move, vX6_move, if_pos e, if_pos e, nI_clamp (by omega), h5, e16, e17, e18, show (10000 : Int32) = nI 10000 from rfl, show (100 : Int32) = nI 100 from rfl, show (10 : Int32) = nI 10 from rfl, pk_mul, pk_mul, pk_mul, nI_add, nI_add]
  refine ⟨by split <;> rfl, ?_⟩
  rcases (show o = 0 ∨ o = 1 by omega) with r | r
  · rw [r, if_pos nI_0, show (0 : Int32) = nI 0 from rfl, nI_add]
  · rw [r, if_neg (show ¬ nI 1 = 0 by decide), show (1 : Int32) = nI 1 from rfl, nI_add]
theorem zv_sound {t m : Nat} (h : zJ t F G N Q) (hm : m < N 1) : eX6_isSound F G N Q (nI m) = 0 ∧ vX6_isSound F G N Q (nI m) = 1 := by
  obtain ⟨a, b⟩ := z_snd (F := F) (G := G) (N := N) (Q := Q) h.n1 hm (h.sa m hm)
  exact ⟨b, a⟩
theorem zv_tugs {t : Nat} (h : zJ t F G N Q) : ∃ w, w < 64 ∧ vX6_tugs F G N Q = nI w ∧ ∀ i, i < 6 → Nat.testBit w i = true → ¬ (t / 8 + i) % 3 = 0 := by
  obtain ⟨ht, hF⟩ := h.tt
  obtain ⟨w, hw, e, hb⟩ := z_tg0 (F := F) (G := G) (N := N) (Q := Q) (t := t) (by omega) h.n1 h.ho h.tg
  refine ⟨w, hw, ?_, fun i hi hbit => ((hb i hi).mp hbit).1⟩
  rw [vX6_tugs, hF, e]
theorem zv_hasWater {k x : Nat} (hk : k < N 0) (hn : N 0 ≤ 30) (hx : x ≤ 3000) : eX6_hasWater F G N Q (nI k) (nI x) = 0 ∧ vX6_hasWater F G N Q (nI k) (nI x) = (if G 10 k = 0 then vX5_carries F G N Q k 0 (nI x) else if G 10 k = 2 then vX5_carries F G N Q k 1 (nI x) else 0) := by
  have e1 : eX6_shipAt F G N Q (nI k) = 0 := zv_sh hk hn
  have e2 : eX6_checkRange (nI x) (0 : Int32) (3000 : Int32) = 0 := zv_cr (lo := 0) (hi := 3000) (by omega) hx (by decide)
  have z10 : ¬ (1 : Int32) = 0 := by decide
  have cz : ∀ o : Int32, (if vX5_carries F G N Q k o (nI x) = 0 then (0 : Int32) else 1) = vX5_carries F G N Q k o (nI x) := fun o => by
    rw [vX5_carries]
    repeat' split
    all_goals first
      | rfl
      | (rename_i q; exact absurd rfl q)
      | (rename_i q; exact absurd q (by decide))
  rw [eX6_hasWater, vX6_hasWater, if_pos e1, if_pos e1, if_pos e2, if_pos e2, nI_clamp (by omega), vX4_canMove]
  refine ⟨by repeat' split
             all_goals rfl, ?_⟩
  by_cases c : G 10 k = 0
  · rw [if_pos c, if_neg z10, if_neg (show ¬ G 10 k = 2 by rw [c]; decide), if_pos c, cz]
  · rw [if_neg c, if_neg c]
    by_cases c2 : G 10 k = 2
    · rw [if_pos c2, if_neg z10, if_pos c2, if_pos c2, cz]
    · rw [if_neg c2, if_pos rfl, if_neg c2]
end
