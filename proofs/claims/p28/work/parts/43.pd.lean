section
def zPm (r : Nat → Int32) : Prop := (∀ j, j < 6 → vp_in (r j) 6) ∧ (∀ i j, i < 6 → j < 6 → r i = r j → i = j) ∧ ∀ p, p < 6 → ∃ j, j < 6 ∧ r j = nI p
def zSi (p j : Nat) : Nat := if j < p then j else if j < 5 then j + 1 else p
theorem zSi_lt {p j : Nat} (hp : p < 6) (hj : j < 6) : zSi p j < 6 := by unfold zSi; split <;> (try split) <;> omega
theorem zPm_send {r e : Nat → Int32} {p : Nat} (hp : p < 6) (h : zPm r) (he : ∀ j, j < 6 → e j = r (zSi p j)) : zPm e := by
  refine ⟨fun j hj => by rw [he j hj]; exact h.1 _ (zSi_lt hp hj), fun i j hi hj q => ?_, fun v hv => ?_⟩
  · rw [he i hi, he j hj] at q
    have := h.2.1 _ _ (zSi_lt hp hi) (zSi_lt hp hj) q
    unfold zSi at this
    split at this <;> split at this <;> (try split at this) <;> (try split at this) <;> omega
  · obtain ⟨i, hi, e1⟩ := h.2.2 v hv
    by_cases a : i < p
    · exact ⟨i, hi, by rw [he i hi, show zSi p i = i by unfold zSi; rw [if_pos a]]; exact e1⟩
    · by_cases b : i = p
      · exact ⟨5, by omega, by rw [he 5 (by omega), show zSi p 5 = i by unfold zSi; rw [if_neg (by omega), if_neg (by omega), b]]; exact e1⟩
      · exact ⟨i - 1, by omega, by rw [he (i - 1) (by omega), show zSi p (i - 1) = i by unfold zSi; rw [if_neg (by omega), if_pos (by omega)]; omega]; exact e1⟩
theorem z_send6 {F : Nat → Int32} {G : Nat → Nat → Int32} {N : Nat → Nat} {Q : Nat → Nat → Nat} {p : Nat} (hp : p < 6) (h : zPm (G 3)) : ∀ j, j < 6 → sX3_sendLast F G N Q (G 3 p) j = G 3 (zSi p j) := by
  have key := z_nfI (f := bX3_sendLast_4 F G N Q (G 3 p)) (a := ((0 : Int32), G 3)) (fun k v => v.1 = nI (if k ≤ p then k else k - 1) ∧ ∀ j, v.2 j = if k ≤ p then G 3 j else if j < p then G 3 j else if j < k - 1 then G 3 (j + 1) else G 3 j) 6 ⟨by rw [if_pos (by omega)]; rfl, fun j => by rw [if_pos (by omega)]⟩ (by
    rintro k hk ⟨v0, v1⟩ ⟨h1, h2⟩
    dsimp only at h1 h2
    have hk1 : v1 k = G 3 k := by
      rw [h2 k]
      by_cases a : k ≤ p
      · rw [if_pos a]
      · rw [if_neg a, if_neg (by omega), if_neg (by omega)]
    rw [bX3_sendLast_4, nI_clamp (by omega)]
    rw [hk1]
    by_cases a : k = p
    · rw [if_pos (by rw [a])]
      rw [if_pos (by omega)] at h1
      refine ⟨?_, fun j => ?_⟩
      · dsimp only
        rw [if_neg (by omega), h1]
        congr 1
      · dsimp only
        rw [h2 j, if_pos (by omega), if_neg (by omega)]
        by_cases b : j < p
        · rw [if_pos b]
        · rw [if_neg b, if_neg (by omega)]
    · rw [if_neg (fun z => a (h.2.1 _ _ hk hp z))]
      refine ⟨?_, fun j => ?_⟩
      · dsimp only
        rw [h1]
        by_cases b : k ≤ p
        · rw [if_pos b, if_pos (by omega)]; exact nI_inc k
        · rw [if_neg b, if_neg (by omega)]
          rw [nI_inc]
          congr 1; omega
      · dsimp only
        rw [h1]
        by_cases b : k ≤ p
        · rw [if_pos b, if_pos (by omega), nI_clamp (by omega)]
          by_cases c : j = k
          · rw [c, up_s]
          · rw [up_n c, h2 j, if_pos b]
        · rw [if_neg b, if_neg (by omega), nI_clamp (by omega)]
          by_cases c : j = k - 1
          · rw [c, up_s, if_neg (by omega), if_pos (by omega), show k - 1 + 1 = k by omega]
          · rw [up_n c, h2 j, if_neg b]
            by_cases d : j < p
            · rw [if_pos d, if_pos d]
            · rw [if_neg d, if_neg d]
              by_cases e : j < k - 1
              · rw [if_pos e, if_pos (by omega)]
              · rw [if_neg e, if_neg (by omega)])
  intro j hj
  rw [sX3_sendLast]
  by_cases q : j = 5
  · rw [q, show ((5 : Int32)).toNatClampNeg = 5 from rfl, up_s, show zSi p 5 = p by unfold zSi; rw [if_neg (by omega), if_neg (by omega)]]
  · rw [show ((5 : Int32)).toNatClampNeg = 5 from rfl, up_n q, key.2 j, if_neg (by omega)]
    unfold zSi
    by_cases d : j < p
    · rw [if_pos d, if_pos d]
    · rw [if_neg d, if_neg d, if_pos (by omega), if_pos (by omega)]
theorem z_send7 {f : Nat → Int32} {g : Nat → Nat → Int32} {p : Nat} {a : Int32} (hp : p < 6) (hf : vX7_firstReady f g = nI p) : ∀ j, j < 6 → (upd (nf (bX7_begins_15 f g a) (g 16) (((5 : Int32) - vX7_firstReady f g).toNatClampNeg)) ((5 : Int32)).toNatClampNeg (g 16 (vX7_firstReady f g).toNatClampNeg)) j = g 16 (zSi p j) := by
  have e5 : ((5 : Int32) - vX7_firstReady f g).toNatClampNeg = 5 - p := by rw [hf, dn_eq hp, nI_clamp (by omega)]
  have key := z_nfI (f := bX7_begins_15 f g a) (a := g 16) (fun k v => ∀ j, v j = if p ≤ j ∧ j < p + k then g 16 (j + 1) else g 16 j) (5 - p) (fun j => by rw [if_neg (by omega)]) (by
    intro k hk v hv j
    rw [bX7_begins_15, hf, nI_add, nI_1, nI_clamp (by omega), nI_clamp (by omega), hv (p + k + 1), if_neg (by omega)]
    by_cases c : j = p + k
    · rw [c, up_s, if_pos (by omega)]
    · rw [up_n c, hv j]
      by_cases d : p ≤ j ∧ j < p + k
      · rw [if_pos d, if_pos (by omega)]
      · rw [if_neg d, if_neg (by omega)])
  intro j hj
  rw [e5, hf, nI_clamp (by omega)]
  by_cases q : j = 5
  · rw [q, show ((5 : Int32)).toNatClampNeg = 5 from rfl, up_s, show zSi p 5 = p by unfold zSi; rw [if_neg (by omega), if_neg (by omega)]]
  · rw [show ((5 : Int32)).toNatClampNeg = 5 from rfl, up_n q, key j]
    unfold zSi
    by_cases d : j < p
    · rw [if_pos d, if_neg (by omega)]
    · rw [if_neg d, if_pos (by omega), if_pos (by omega)]
theorem z_place {f : Nat → Int32} {g : Nat → Nat → Int32} {a : Int32} {pa : Nat} (hp : pa < 6) (h : ∀ j, j < 6 → (g 16 j = a ↔ j = pa)) : vX7_placeOf f g a = nI pa := by
  have key := z_nfI (f := bX7_placeOf_4 f g a) (a := (-1 : Int32)) (fun k v => v = if pa < k then nI pa else -1) 6 (by rw [if_neg (by omega)]) (by
    intro k hk v hv
    rw [bX7_placeOf_4, nI_clamp (by omega)]
    by_cases c : k = pa
    · rw [if_pos ((h k hk).mpr c), if_pos (by omega), c]
    · rw [if_neg (fun z => c ((h k hk).mp z)), hv]
      by_cases d : pa < k
      · rw [if_pos d, if_pos (by omega)]
      · rw [if_neg d, if_neg (by omega)])
  rw [vX7_placeOf, key, if_pos hp]
theorem z_exch {F : Nat → Int32} {G : Nat → Nat → Int32} {N : Nat → Nat} {Q : Nat → Nat → Nat} {a b : Int32} {pb : Nat} (hab : ¬ a = b) (hp : pb < 6) (h : ∀ j, j < 6 → (G 3 j = b ↔ j = pb)) : vX3_exchange F G N Q a b = nI pb ∧ ∀ j, j < 6 → sX3_exchange F G N Q a b j = if G 3 j = a then b else if G 3 j = b then a else G 3 j := by
  have key := z_nfI (f := bX3_exchange_5 F G N Q a b) (a := ((-1 : Int32), G 3)) (fun k v => v.1 = (if pb < k then nI pb else -1) ∧ ∀ j, v.2 j = if j < k then (if G 3 j = a then b else if G 3 j = b then a else G 3 j) else G 3 j) 6 ⟨by rw [if_neg (by omega)], fun j => by rw [if_neg (by omega)]⟩ (by
    rintro k hk ⟨v0, v1⟩ ⟨h1, h2⟩
    dsimp only at h1 h2
    have hk1 : v1 k = G 3 k := by rw [h2 k, if_neg (by omega)]
    have nx : ∀ (x : Int32), x = (if G 3 k = a then b else if G 3 k = b then a else G 3 k) → ∀ j, upd v1 k x j = if j < k + 1 then (if G 3 j = a then b else if G 3 j = b then a else G 3 j) else G 3 j := by
      intro x hx j
      by_cases c : j = k
      · rw [c, up_s, if_pos (by omega)]; exact hx
      · rw [up_n c, h2 j]
        by_cases d : j < k
        · rw [if_pos d, if_pos (show j < k + 1 by omega)]
        · rw [if_neg d, if_neg (show ¬ j < k + 1 by omega)]
    rw [bX3_exchange_5, nI_clamp (by omega)]
    rw [hk1]
    by_cases c : G 3 k = a
    · rw [if_pos c]
      have ne : ¬ k = pb := fun z => hab (c.symm.trans ((h k hk).mpr z))
      refine ⟨?_, nx b (by rw [if_pos c])⟩
      dsimp only
      rw [h1]
      by_cases d : pb < k
      · rw [if_pos d, if_pos (by omega)]
      · rw [if_neg d, if_neg (by omega)]
    · rw [if_neg c]
      by_cases e : G 3 k = b
      · rw [if_pos e]
        have ne : k = pb := (h k hk).mp e
        refine ⟨?_, nx a (by rw [if_neg c, if_pos e])⟩
        dsimp only
        rw [if_pos (by omega), ne]
      · rw [if_neg e]
        have ne : ¬ k = pb := fun z => e ((h k hk).mpr z)
        refine ⟨?_, fun j => ?_⟩
        · dsimp only
          rw [h1]
          by_cases d : pb < k
          · rw [if_pos d, if_pos (by omega)]
          · rw [if_neg d, if_neg (by omega)]
        · dsimp only
          rw [h2 j]
          by_cases d : j < k
          · rw [if_pos d, if_pos (show j < k + 1 by omega)]
          · rw [if_neg d]
            by_cases i : j < k + 1
            · have : j = k := by omega
              rw [if_pos i, this, if_neg c, if_neg e]
            · rw [if_neg i])
  refine ⟨by rw [vX3_exchange, key.1, if_pos hp], fun j hj => ?_⟩
  rw [sX3_exchange, key.2 j, if_pos hj]
theorem zPm_at {r : Nat → Int32} (h : zPm r) {a : Int32} (ha : vp_in a 6) : ∃ p, p < 6 ∧ r p = a ∧ ∀ j, j < 6 → (r j = a ↔ j = p) := by
  obtain ⟨v, hv, e⟩ := vp_in_of ha (by decide)
  obtain ⟨p, hp, e1⟩ := h.2.2 v hv
  rw [← e] at e1
  exact ⟨p, hp, e1, fun j hj => ⟨fun z => h.2.1 j p hj hp (z.trans e1.symm), fun z => by rw [z]; exact e1⟩⟩
theorem zPm_swap {r e : Nat → Int32} (h : zPm r) {a b : Int32} (ha : vp_in a 6) (hb : vp_in b 6) (hab : ¬ a = b) (he : ∀ j, j < 6 → e j = if r j = a then b else if r j = b then a else r j) : zPm e := by
  obtain ⟨pa, hpa, ea, ia⟩ := zPm_at h ha
  obtain ⟨pb, hpb, eb, ib⟩ := zPm_at h hb
  refine ⟨fun j hj => ?_, fun i j hi hj q => ?_, fun v hv => ?_⟩
  · rw [he j hj]
    split
    · exact hb
    · split
      · exact ha
      · exact h.1 j hj
  · rw [he i hi, he j hj] at q
    by_cases i1 : r i = a
    · rw [if_pos i1] at q
      by_cases j1 : r j = a
      · exact h.2.1 i j hi hj (i1.trans j1.symm)
      · rw [if_neg j1] at q
        by_cases j2 : r j = b
        · rw [if_pos j2] at q; exact absurd q.symm hab
        · rw [if_neg j2] at q; exact absurd q.symm j2
    · rw [if_neg i1] at q
      by_cases i2 : r i = b
      · rw [if_pos i2] at q
        by_cases j1 : r j = a
        · rw [if_pos j1] at q; exact absurd q hab
        · rw [if_neg j1] at q
          by_cases j2 : r j = b
          · exact h.2.1 i j hi hj (i2.trans j2.symm)
          · rw [if_neg j2] at q; exact absurd q.symm j1
      · rw [if_neg i2] at q
        by_cases j1 : r j = a
        · rw [if_pos j1] at q; exact absurd q i2
        · rw [if_neg j1] at q
          by_cases j2 : r j = b
          · rw [if_pos j2] at q; exact absurd q i1
          · rw [if_neg j2] at q; exact h.2.1 i j hi hj q
  · by_cases va : nI v = a
    · exact ⟨pb, hpb, by rw [he pb hpb, if_neg (fun z => hab (z.symm.trans eb)), if_pos eb, va]⟩
    · by_cases vb : nI v = b
      · exact ⟨pa, hpa, by rw [he pa hpa, if_pos ea, vb]⟩
      · obtain ⟨j, hj, e1⟩ := h.2.2 v hv
        exact ⟨j, hj, by rw [he j hj, e1, if_neg va, if_neg vb]⟩
theorem z_swap {F : Nat → Int32} {G : Nat → Nat → Int32} {N : Nat → Nat} {Q : Nat → Nat → Nat} {f : Nat → Int32} {g : Nat → Nat → Int32} {a b : Int32} (h : zPm (G 3)) (hr : zAg 6 (G 3) (g 16)) (ha : vp_in a 6) (hb : vp_in b 6) (hab : ¬ a = b) : vX3_exchange F G N Q a b = vX7_placeOf f g b ∧ zAg 6 (sX3_exchange F G N Q a b) (upd (upd (g 16) (vX7_placeOf f g a).toNatClampNeg b) (vX7_placeOf f g b).toNatClampNeg a) ∧ zPm (sX3_exchange F G N Q a b) := by
  obtain ⟨pa, hpa, ea, ia⟩ := zPm_at h ha
  obtain ⟨pb, hpb, eb, ib⟩ := zPm_at h hb
  have qa : vX7_placeOf f g a = nI pa := z_place hpa (fun j hj => by rw [← hr j hj]; exact ia j hj)
  have qb : vX7_placeOf f g b = nI pb := z_place hpb (fun j hj => by rw [← hr j hj]; exact ib j hj)
  obtain ⟨k1, k2⟩ := z_exch (F := F) (G := G) (N := N) (Q := Q) hab hpb ib
  refine ⟨k1.trans qb.symm, fun j hj => ?_, zPm_swap h ha hb hab k2⟩
  rw [k2 j hj, qa, qb, nI_clamp (by omega), nI_clamp (by omega)]
  by_cases c : j = pb
  · rw [c, up_s, if_neg (fun z => hab (z.symm.trans eb)), if_pos eb]
  · rw [up_n c]
    by_cases d : j = pa
    · rw [d, up_s, if_pos ea]
    · rw [up_n d, if_neg (fun z => d ((ia j hj).mp z)), if_neg (fun z => c ((ib j hj).mp z))]
      exact hr j hj
end
