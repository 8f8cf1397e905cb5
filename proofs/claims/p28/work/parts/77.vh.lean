section
variable {t : Nat} {F : Nat → Int32} {G : Nat → Nat → Int32} {N : Nat → Nat} {Q : Nat → Nat → Nat} {cf pf : Nat → Int32}
theorem z_ge0 {x : Int32} (h : 0 ≤ x.toInt) : 0 ≤ x := by
  rw [Int32.le_iff_toInt_le, Int32.toInt_zero]; exact h
theorem zL_of (hL : zL t F G N Q cf pf) {F' : Nat → Int32} {G' : Nat → Nat → Int32} {N' : Nat → Nat} {Q' : Nat → Nat → Nat} {cf' pf' : Nat → Int32} (hJ : zJ t F' G' N' Q') (n0 : N' 0 = N 0) (n1 : N' 1 = N 1) (hm : F' 1 + F' 2 + zIs (G' 4) 6 = zIs (G' 13) (N 0)) (g6 : G' 6 = G 6) (g7 : G' 7 = G 7) (g8 : G' 8 = G 8) (g9 : G' 9 = G 9) (g10 : G' 10 = G 10) (hta : ∀ j, j < 12 → 0 ≤ (G' 0 j).toInt ∧ (G' 0 j).toInt ≤ 150) (hde : ∀ k, k < 6 → 0 ≤ (G' 2 k).toInt) (hsu : ∀ x, x ≤ 3100 → -40 ≤ (G' 1 x).toInt ∧ (G' 1 x).toInt ≤ 40) (ho : ∀ s, s < N 0 → G' 12 s = -1 ∨ ∃ h, 1 ≤ h ∧ h ≤ 3000 ∧ G' 12 s = nI h) (c0 : cf' 0 = cf 0) (c1 : cf' 1 = cf 1) (c2 : cf' 2 = cf 2) (c3 : cf' 3 = nI (N' 2)) (c8 : ∀ k, k < 6 → cf' (8 + k) = G' 2 k) (p0 : ∀ i, i < 50 → pf' i = pf i) (p5 : ∀ k, k < N 0 → pf' (50 + k) = zo12 (G' 12 k)) (p6 : ∀ k, N 0 ≤ k → k < 10 → pf' (50 + k) = 0) : zL t F' G' N' Q' cf' pf' := by
  obtain ⟨_, ⟨x1, x2, x3, x4, x5, x6⟩, ⟨m0, m1, m2, m3, m8, mi, mo⟩⟩ := hL
  refine ⟨hJ, ⟨by rw [n0]; exact x1, by rw [n0]; exact hm, by rw [n0, g9, g10]; exact x3, ⟨hta, hde⟩, hsu, by rw [n0]; exact ho⟩, ⟨c0.trans m0, by rw [c1, n0]; exact m1, by rw [c2, n1]; exact m2, c3, c8, fun k hk => ?_, fun k hk hk2 => ?_⟩⟩
  · rw [n0] at hk
    obtain ⟨a1, a2, a3, a4, a5, a6⟩ := mi k hk
    rw [g6, g7, g8, g9, g10, p0 _ (by omega), p0 _ (by omega), p0 _ (by omega), p0 _ (by omega), p0 _ (by omega)]
    exact ⟨a1, a2, a3, a4, a5, p5 k hk⟩
  · rw [n0] at hk
    exact p6 k hk hk2
theorem z_Lberth (hL : zL t F G N Q cf pf) {x y : Nat} (hx : x < 6) (hy : y ≤ 200) : ∃ cc : Int32, ((eX6_berth F G N Q (nI x) (nI y) = 0 ∧ cc = vX6_berth F G N Q (nI x) (nI y)) ∨ (eX6_berth F G N Q (nI x) (nI y) = 3 ∧ cc = -1)) ∧ (0 ≤ cc → cc = G 2 x ∧ zL t F (hu G 2 (sX6_berth F G N Q (nI x) (nI y))) N Q (upd cf (8 + x) (nI y)) pf) ∧ (¬ 0 ≤ cc → 0 < N 1 ∧ zL t F (hu G 2 (sX6_berth F G N Q (nI x) (nI y))) N Q (upd cf (8 + x) (G 2 x)) pf) := by
  obtain ⟨hJ, ⟨x1, x2, x3, ⟨x4, x4b⟩, x5, x6⟩, ⟨m0, m1, m2, m3, m8, mi, mo⟩⟩ := id hL
  obtain ⟨f, g, hI⟩ := hJ.I
  have hJ' := zJ.of (zf_berth (nI x) (nI y) hI).2 hJ.tt.1 hJ.tt.2
  have e1 : eX6_checkPlace (nI x) (6 : Int32) = 0 := zv_cp hx (by decide)
  have e2 : eX6_checkRange (nI y) (0 : Int32) (200 : Int32) = 0 := zv_cr (lo := 0) (hi := 200) (by omega) hy (by decide)
  have mk : ∀ v : Int32, (∀ k, k < 6 → upd cf (8 + x) v (8 + k) = hu G 2 (sX6_berth F G N Q (nI x) (nI y)) 2 k) → (∀ k, k < 6 → 0 ≤ (hu G 2 (sX6_berth F G N Q (nI x) (nI y)) 2 k).toInt) → zL t F (hu G 2 (sX6_berth F G N Q (nI x) (nI y))) N Q (upd cf (8 + x) v) pf := fun v h8 hd => zL_of hL hJ' rfl rfl x2 rfl rfl rfl rfl rfl x4 hd x5 x6 (up_n (by omega)) (up_n (by omega)) (up_n (by omega)) ((up_n (by omega)).trans m3) h8 (fun _ _ => rfl) (fun k hk => (mi k hk).2.2.2.2.2) mo
  by_cases c : vX0_hasMoveAt F G N Q (nI x) = 0
  · have eS : sX6_berth F G N Q (nI x) (nI y) = upd (G 2) x (nI y) := by rw [sX6_berth, if_pos e1, if_pos e2, if_pos c, nI_clamp (by omega)]
    have eV : vX6_berth F G N Q (nI x) (nI y) = G 2 x := by rw [vX6_berth, if_pos e1, if_pos e2, if_pos c, nI_clamp (by omega)]
    refine ⟨G 2 x, Or.inl ⟨by rw [eX6_berth, if_pos e1, if_pos e2, if_pos c], eV.symm⟩, fun _ => ⟨rfl, mk _ (fun k hk => ?_) (fun k hk => ?_)⟩, fun z => ?_⟩
    · rw [eS]
      show _ = upd (G 2) x (nI y) k
      by_cases d : k = x
      · rw [d, up_s, up_s]
      · rw [up_n (by omega), up_n d]; exact m8 k hk
    · rw [eS]
      show 0 ≤ (upd (G 2) x (nI y) k).toInt
      by_cases d : k = x
      · rw [d, up_s, nI_toInt (by omega)]; omega
      · rw [up_n d]; exact x4b k hk
    · exact absurd (z_ge0 (x4b x hx)) z
  · have eS : sX6_berth F G N Q (nI x) (nI y) = G 2 := by rw [sX6_berth, if_pos e1, if_pos e2, if_neg c]
    refine ⟨-1, Or.inr ⟨by rw [eX6_berth, if_pos e1, if_pos e2, if_neg c], rfl⟩, fun z => absurd z (by decide), fun _ => ⟨?_, mk _ (fun k hk => ?_) (fun k hk => ?_)⟩⟩
    · apply Classical.byContradiction
      intro z
      exact c (z_used6.mpr (fun j hj => by omega))
    · rw [eS]
      show _ = G 2 k
      by_cases d : k = x
      · rw [d, up_s]
      · rw [up_n (by omega)]; exact m8 k hk
    · rw [eS]; exact x4b k hk
theorem z_Ltable (hL : zL t F G N Q cf pf) {x y : Nat} (hx : x < 12) (hy : y ≤ 100) : ∃ cc : Int32, ((eX6_table F G N Q (nI x) (nI y) = 0 ∧ cc = vX6_table F G N Q (nI x) (nI y)) ∨ (eX6_table F G N Q (nI x) (nI y) = 3 ∧ cc = -1)) ∧ zL t F (hu G 0 (sX6_table F G N Q (nI x) (nI y))) N Q cf pf ∧ (0 ≤ cc → cc ≤ 150 ∧ sX6_table F G N Q (nI x) (nI y) x = nI y) ∧ (¬ 0 ≤ cc → 0 < N 1) := by
  obtain ⟨hJ, ⟨x1, x2, x3, ⟨x4, x4b⟩, x5, x6⟩, ⟨m0, m1, m2, m3, m8, mi, mo⟩⟩ := id hL
  obtain ⟨f, g, hI⟩ := hJ.I
  have hJ' := zJ.of (zf_table (nI x) (nI y) hI).2 hJ.tt.1 hJ.tt.2
  have n1 := hJ.n1
  have e1 : eX6_checkPlace (nI x) (12 : Int32) = 0 := zv_cp hx (by decide)
  have e2 : eX6_checkRange (nI y) (0 : Int32) (150 : Int32) = 0 := zv_cr (lo := 0) (hi := 150) (by omega) (by omega) (by decide)
  have mk : (∀ j, j < 12 → 0 ≤ (hu G 0 (sX6_table F G N Q (nI x) (nI y)) 0 j).toInt ∧ (hu G 0 (sX6_table F G N Q (nI x) (nI y)) 0 j).toInt ≤ 150) → zL t F (hu G 0 (sX6_table F G N Q (nI x) (nI y))) N Q cf pf := fun hd => zL_of hL hJ' rfl rfl x2 rfl rfl rfl rfl rfl hd x4b x5 x6 rfl rfl rfl m3 m8 (fun _ _ => rfl) (fun k hk => (mi k hk).2.2.2.2.2) mo
  by_cases c : nI (N 1) ≤ 0
  · have eS : sX6_table F G N Q (nI x) (nI y) = upd (G 0) x (nI y) := by rw [sX6_table, if_pos e1, if_pos e2, if_pos c, nI_clamp (by omega)]
    have eV : vX6_table F G N Q (nI x) (nI y) = G 0 x := by rw [vX6_table, if_pos e1, if_pos e2, if_pos c, nI_clamp (by omega)]
    refine ⟨G 0 x, Or.inl ⟨by rw [eX6_table, if_pos e1, if_pos e2, if_pos c], eV.symm⟩, mk (fun k hk => ?_), fun _ => ⟨Int32.le_iff_toInt_le.mpr (x4 x hx).2, by rw [eS, up_s]⟩, fun z => absurd (z_ge0 (x4 x hx).1) z⟩
    rw [eS]
    show 0 ≤ (upd (G 0) x (nI y) k).toInt ∧ (upd (G 0) x (nI y) k).toInt ≤ 150
    by_cases d : k = x
    · rw [d, up_s, nI_toInt (by omega)]; omega
    · rw [up_n d]; exact x4 k hk
  · have eS : sX6_table F G N Q (nI x) (nI y) = G 0 := by rw [sX6_table, if_pos e1, if_pos e2, if_neg c]
    refine ⟨-1, Or.inr ⟨by rw [eX6_table, if_pos e1, if_pos e2, if_neg c], rfl⟩, mk (fun k hk => by rw [eS]; exact x4 k hk), fun z => absurd z (by decide), fun _ => ?_⟩
    apply Classical.byContradiction
    intro z
    have : N 1 = 0 := by omega
    rw [this] at c
    exact c (by decide)
theorem z_Lwind (hL : zL t F G N Q cf pf) {x y : Nat} {c : Int32} (hx1 : t + 3 ≤ x) (hx2 : x ≤ 3100) (hy1 : 1 ≤ y) (hy2 : y ≤ 48) (hc1 : -40 ≤ c.toInt) (hc2 : c.toInt ≤ 40) : eX6_wind F G N Q (nI x) (nI y) c = 0 ∧ vX6_wind F G N Q (nI x) (nI y) c = G 1 x ∧ sX6_wind F G N Q (nI x) (nI y) c x = c ∧ zL t F (hu G 1 (sX6_wind F G N Q (nI x) (nI y) c)) N Q cf pf := by
  obtain ⟨hJ, ⟨x1, x2, x3, ⟨x4, x4b⟩, x5, x6⟩, ⟨m0, m1, m2, m3, m8, mi, mo⟩⟩ := id hL
  obtain ⟨f, g, hI⟩ := hJ.I
  obtain ⟨ht, eF⟩ := hJ.tt
  have hJ' := zJ.of (zf_wind (nI x) (nI y) c hI).2 ht eF
  have e1 : eX6_checkRange (nI x) (F 0 + (3 : Int32)) (3100 : Int32) = 0 := by
    rw [eF, show nI t + (3 : Int32) = nI (t + 3) from nI_add t 3]
    exact zv_cr (hi := 3100) hx1 hx2 (by decide)
  have e2 : eX6_checkRange (nI y) (1 : Int32) (48 : Int32) = 0 := zv_cr (lo := 1) (hi := 48) hy1 hy2 (by decide)
  have e3 : eX6_checkRange c (-40 : Int32) (40 : Int32) = 0 := by
    rw [eX6_checkRange, if_neg (fun z => by rw [Int32.lt_iff_toInt_lt] at z; have : (-40 : Int32).toInt = -40 := by decide
                                            omega), if_pos (Int32.le_iff_toInt_le.mpr (by have : (40 : Int32).toInt = 40 := by decide
                                                                                          omega))]
  have k6 : ∀ j, sX6_wind F G N Q (nI x) (nI y) c j = if x ≤ j ∧ j < x + (eH x y - x) then c else G 1 j := by
    rw [sX6_wind, if_pos e1, if_pos e2, if_pos e3, nI_clamp (by omega), nI_clamp (by omega), sX5_tellSurge]
    exact z_nfI (f := bX5_tellSurge_16 F G N Q x y c) (a := G 1) (fun k v => ∀ j, v j = if x ≤ j ∧ j < x + k then c else G 1 j) (eH x y - x) (fun j => by rw [if_neg (by omega)]) (by
      intro k hk v hv j
      have : eH x y ≤ x + y := by unfold eH; split <;> omega
      rw [bX5_tellSurge_16, nI_clamp (by omega)]
      by_cases q : j = x + k
      · rw [q, up_s, if_pos (by omega)]
      · rw [up_n q, hv j]
        by_cases d : x ≤ j ∧ j < x + k
        · rw [if_pos d, if_pos (by omega)]
        · rw [if_neg d, if_neg (by omega)])
  refine ⟨by rw [eX6_wind, if_pos e1, if_pos e2, if_pos e3], by rw [vX6_wind, if_pos e1, if_pos e2, if_pos e3, nI_clamp (by omega)], ?_, ?_⟩
  · rw [k6 x, if_pos (by unfold eH; split <;> omega)]
  · refine zL_of hL hJ' rfl rfl x2 rfl rfl rfl rfl rfl x4 x4b (fun j hj => ?_) x6 rfl rfl rfl m3 m8 (fun _ _ => rfl) (fun k hk => (mi k hk).2.2.2.2.2) mo
    show -40 ≤ (sX6_wind F G N Q (nI x) (nI y) c j).toInt ∧ (sX6_wind F G N Q (nI x) (nI y) c j).toInt ≤ 40
    rw [k6 j]
    split
    · exact ⟨hc1, hc2⟩
    · exact x5 j hj
theorem z_Lorder (hL : zL t F G N Q cf pf) {k h : Nat} (hk : k < N 0) (h1 : t + 1 ≤ h) (h2 : h ≤ 3000) (hst : pf (40 + k) = 0 ∨ pf (40 + k) = 2) (h0 : pf (50 + k) = 0) : eX6_order F G N Q (nI k) (nI h) = 0 ∧ vX6_order F G N Q (nI k) (nI h) = nI (N 2 + 1) ∧ zL t F (hu G 12 (sX6_order F G N Q (nI k) (nI h)).2.2) (hu N 2 (sX6_order F G N Q (nI k) (nI h)).1) (hu Q 0 (sX6_order F G N Q (nI k) (nI h)).2.1) (upd cf 3 (nI (N 2 + 1))) (upd pf (50 + k) (nI h)) := by
  obtain ⟨hJ, ⟨x1, x2, x3, ⟨x4, x4b⟩, x5, x6⟩, ⟨m0, m1, m2, m3, m8, mi, mo⟩⟩ := id hL
  obtain ⟨f, g, hI⟩ := hJ.I
  obtain ⟨ht, eF⟩ := hJ.tt
  have hn := hJ.n0
  have hn2 := hJ.n2
  have hJ' := zJ.of (zf_order (nI k) (nI h) hI).2 ht eF
  have e1 : eX6_shipAt F G N Q (nI k) = 0 := zv_sh hk hn
  have e2 : eX6_checkRange (nI h) (F 0 + (1 : Int32)) (3000 : Int32) = 0 := by
    rw [eF, nI_1]
    exact zv_cr (hi := 3000) h1 h2 (by decide)
  have g10 : G 10 k = 0 ∨ G 10 k = 2 := by rw [(mi k hk).2.2.2.2.1] at hst; exact hst
  have g12 : G 12 k = -1 := by
    rcases zo_ord (x6 k hk) with ⟨a, b⟩ | ⟨a, x, y1, y2, y3, y4⟩
    · exact a
    · rw [(mi k hk).2.2.2.2.2, y4] at h0
      exact absurd h0 (nI_ne0 (by omega) (by omega))
  have e3 : ¬ vX4_canMove F G N Q k = 0 := by
    rw [vX4_canMove]
    rcases g10 with z | z
    · rw [if_pos z]; decide
    · rw [if_neg (by rw [z]; decide), if_pos z]; decide
  have e4 : vX4_hasOrder F G N Q k = 0 := by rw [vX4_hasOrder, if_pos g12]
  obtain ⟨r', hr', es, s1, s2⟩ := z_insr (F := F) (G := hu G 12 (upd (G 12) k (nI h))) (N := N) (Q := Q) (i := k) hk hn (fun j hj => hJ.num j hj) (fun j hj => (hJ.q.1 j hj).1)
  have eS : sX6_order F G N Q (nI k) (nI h) = (N 2 + 1, insG (Q 0) r' k, upd (G 12) k (nI h)) := by
    rw [sX6_order, if_pos e1, if_pos e2, nI_clamp (by omega), if_neg e3, if_pos e4, es]
  refine ⟨by rw [eX6_order, if_pos e1, if_pos e2, nI_clamp (by omega), if_neg e3, if_pos e4], by rw [vX6_order, if_pos e1, if_pos e2, nI_clamp (by omega), if_neg e3, if_pos e4, es], ?_⟩
  rw [eS] at hJ' ⊢
  refine zL_of hL hJ' rfl rfl x2 rfl rfl rfl rfl rfl x4 x4b x5 (fun s hs => ?_) (up_n (by decide)) (up_n (by decide)) (up_n (by decide)) (up_s) (fun j hj => (up_n (by omega)).trans (m8 j hj)) (fun i hi => up_n (by omega)) (fun j hj => ?_) (fun j hj hj2 => (up_n (by omega)).trans (mo j hj hj2))
  · show upd (G 12) k (nI h) s = -1 ∨ _
    by_cases d : s = k
    · rw [d, up_s]; exact Or.inr ⟨h, by omega, h2, up_s⟩
    · rw [up_n d]
      rcases x6 s hs with z | ⟨y, z⟩
      · exact Or.inl z
      · refine Or.inr ⟨y, z.1, z.2.1, ?_⟩
        show upd (G 12) k (nI h) s = _
        rw [up_n d]; exact z.2.2
  · show _ = zo12 (upd (G 12) k (nI h) j)
    by_cases d : j = k
    · rw [d, up_s, up_s, zo12, if_neg (z_m1 (by omega))]
    · rw [up_n (by omega), up_n d]; exact (mi j hj).2.2.2.2.2
theorem z_Lcancel (hL : zL t F G N Q cf pf) {k : Nat} (hk : k < N 0) (h0 : ¬ pf (50 + k) = 0) : eX6_cancel F G N Q (nI k) = 0 ∧ vX6_cancel F G N Q (nI k) = pf (50 + k) ∧ zL t F (hu G 12 (sX6_cancel F G N Q (nI k)).2.2) (hu N 2 (sX6_cancel F G N Q (nI k)).1) (hu Q 0 (sX6_cancel F G N Q (nI k)).2.1) (upd cf 3 (nI (N 2) - 1)) (upd pf (50 + k) 0) := by
  obtain ⟨hJ, ⟨x1, x2, x3, ⟨x4, x4b⟩, x5, x6⟩, ⟨m0, m1, m2, m3, m8, mi, mo⟩⟩ := id hL
  obtain ⟨f, g, hI⟩ := hJ.I
  obtain ⟨ht, eF⟩ := hJ.tt
  have hn := hJ.n0
  have hn2 := hJ.n2
  have hJ' := zJ.of (zf_cancel (nI k) hI).2 ht eF
  have e1 : eX6_shipAt F G N Q (nI k) = 0 := zv_sh hk hn
  have g12 : (¬ G 12 k = -1) ∧ zo12 (G 12 k) = G 12 k := by
    rcases zo_ord (x6 k hk) with ⟨a, b⟩ | ⟨a, x, y1, y2, y3, y4⟩
    · exact absurd ((mi k hk).2.2.2.2.2.trans b) h0
    · exact ⟨a, y4.trans y3.symm⟩
  have e4 : ¬ vX4_hasOrder F G N Q k = 0 := by rw [vX4_hasOrder, if_neg g12.1]; decide
  obtain ⟨i, hi, ei⟩ := hJ.q.2.1 k hk g12.1
  obtain ⟨y1, y2, y3, y4⟩ := (pO_spec (F := F) (G := G) (N := N) (Q := Q) (i2 := k) (by omega)).resolve_left (fun z => z.2 i hi ei)
  have eS : sX6_cancel F G N Q (nI k) = (N 2 - 1, delG (Q 0) (pO F G N Q k), upd (G 12) k (-1)) := by
    rw [sX6_cancel, if_pos e1, nI_clamp (by omega), if_neg e4, sX2_drop, if_neg (show ¬ vX2_placeOf F G N Q k = (-1 : Int32) by rw [y1]; exact z_m1 (by omega))]
  refine ⟨by rw [eX6_cancel, if_pos e1, nI_clamp (by omega), if_neg e4], by rw [vX6_cancel, if_pos e1, nI_clamp (by omega), if_neg e4, (mi k hk).2.2.2.2.2, g12.2], ?_⟩
  rw [eS] at hJ' ⊢
  refine zL_of hL hJ' rfl rfl x2 rfl rfl rfl rfl rfl x4 x4b x5 (fun s hs => ?_) (up_n (by decide)) (up_n (by decide)) (up_n (by decide)) (up_s.trans ?_) (fun j hj => (up_n (by omega)).trans (m8 j hj)) (fun i hi => up_n (by omega)) (fun j hj => ?_) (fun j hj hj2 => (up_n (by omega)).trans (mo j hj hj2))
  · show upd (G 12) k (-1) s = -1 ∨ _
    by_cases d : s = k
    · rw [d, up_s]; exact Or.inl rfl
    · rw [up_n d]
      rcases x6 s hs with z | ⟨y, z⟩
      · exact Or.inl z
      · refine Or.inr ⟨y, z.1, z.2.1, ?_⟩
        show upd (G 12) k (-1) s = _
        rw [up_n d]; exact z.2.2
  · exact pk_sub (a := N 2) (b := 1) (by omega)
  · show _ = zo12 (upd (G 12) k (-1) j)
    by_cases d : j = k
    · rw [d, up_s, up_s, zo12, if_pos rfl]
    · rw [up_n (by omega), up_n d]; exact (mi j hj).2.2.2.2.2
theorem z_Lswap (hL : zL t F G N Q cf pf) {x y : Nat} (hx : x < 6) (hy : y < 6) (hne : ¬ x = y) : eX6_swap F G N Q (nI x) (nI y) = 0 ∧ zL t F (hu G 3 (sX6_swap F G N Q (nI x) (nI y))) N Q cf pf ∧ ∃ pb, pb < 6 ∧ vX6_swap F G N Q (nI x) (nI y) = nI pb ∧ sX6_swap F G N Q (nI x) (nI y) pb = nI x := by
  obtain ⟨hJ, ⟨x1, x2, x3, ⟨x4, x4b⟩, x5, x6⟩, ⟨m0, m1, m2, m3, m8, mi, mo⟩⟩ := id hL
  obtain ⟨f, g, hI⟩ := hJ.I
  have hJ' := zJ.of (zf_swap (nI x) (nI y) hI).2 hJ.tt.1 hJ.tt.2
  have e1 : eX6_checkPlace (nI x) (6 : Int32) = 0 := zv_cp hx (by decide)
  have e2 : eX6_checkPlace (nI y) (6 : Int32) = 0 := zv_cp hy (by decide)
  have ne : ¬ nI x = nI y := fun z => hne ((nI_eq (by omega) (by omega)).mp z)
  obtain ⟨pb, p1, p2, p3⟩ := zPm_at hJ.pm (a := nI y) (vp_in_nI hy (by decide))
  obtain ⟨q1, q2⟩ := z_exch (F := F) (G := G) (N := N) (Q := Q) ne p1 p3
  refine ⟨by rw [eX6_swap, if_pos e1, if_pos e2, if_neg ne], zL_of hL hJ' rfl rfl x2 rfl rfl rfl rfl rfl x4 x4b x5 x6 rfl rfl rfl m3 m8 (fun _ _ => rfl) (fun k hk => (mi k hk).2.2.2.2.2) mo, pb, p1, by rw [vX6_swap, if_pos e1, if_pos e2, if_neg ne, q1], ?_⟩
  rw [sX6_swap, if_pos e1, if_pos e2, if_neg ne, q2 pb p1, if_neg (by rw [p2]; exact fun z => ne z.symm), if_pos p2]
theorem z_Lpay (hL : zL t F G N Q cf pf) {k : Nat} (hk : k < N 0) (h0 : ¬ G 15 k = 0) : eX6_payClaim F G N Q (nI k) = 0 ∧ vX6_payClaim F G N Q (nI k) = (80 : Int32) * pf k ∧ zL t (hu F 2 (sX6_payClaim F G N Q (nI k)).1) (hu (hu G 13 (sX6_payClaim F G N Q (nI k)).2.1) 15 (sX6_payClaim F G N Q (nI k)).2.2) N Q cf pf ∧ (sX6_payClaim F G N Q (nI k)).2.1 k = G 13 k - (80 : Int32) * pf k ∧ (sX6_payClaim F G N Q (nI k)).2.2 k = G 15 k - 1 := by
  obtain ⟨hJ, ⟨x1, x2, x3, ⟨x4, x4b⟩, x5, x6⟩, ⟨m0, m1, m2, m3, m8, mi, mo⟩⟩ := id hL
  obtain ⟨f, g, hI⟩ := hJ.I
  have hn := hJ.n0
  have hJ' := zJ.of (zf_payClaim (nI k) hI).2 hJ.tt.1 hJ.tt.2
  have e1 : eX6_shipAt F G N Q (nI k) = 0 := zv_sh hk hn
  have p6 : pf k = G 6 k := (mi k hk).1
  have eS : sX6_payClaim F G N Q (nI k) = (F 2 + -((80 : Int32) * G 6 k), upd (G 13) k (G 13 k + -((80 : Int32) * G 6 k)), upd (G 15) k (G 15 k - 1)) := by
    rw [sX6_payClaim, if_pos e1, nI_clamp (by omega), if_neg h0]
  refine ⟨by rw [eX6_payClaim, if_pos e1, nI_clamp (by omega), if_neg h0], by rw [vX6_payClaim, if_pos e1, nI_clamp (by omega), if_neg h0, p6], ?_, ?_, ?_⟩
  · rw [eS] at hJ' ⊢
    refine zL_of hL hJ' rfl rfl ?_ rfl rfl rfl rfl rfl x4 x4b x5 x6 rfl rfl rfl m3 m8 (fun _ _ => rfl) (fun j hj => (mi j hj).2.2.2.2.2) mo
    show F 1 + (F 2 + -((80 : Int32) * G 6 k)) + zIs (G 4) 6 = zIs (upd (G 13) k (G 13 k + -((80 : Int32) * G 6 k))) (N 0)
    rw [zIs_up rfl hk, ← x2]
    grind
  · rw [eS]
    show upd (G 13) k _ k = _
    rw [up_s, p6, Int32.sub_eq_add_neg]
  · rw [eS]
    show upd (G 15) k _ k = _
    rw [up_s]
end
