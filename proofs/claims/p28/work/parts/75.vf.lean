section
variable {F : Nat → Int32} {G : Nat → Nat → Int32} {N : Nat → Nat} {Q : Nat → Nat → Nat}
/-- an order that stands ahead, as the law's own rows tell it -/
def zAp (pf : Nat → Int32) (k s : Nat) : Bool := decide ((¬ pf (50 + s) ≤ 0) ∧ ((pf (20 + k)).toInt < (pf (20 + s)).toInt ∨ ((pf (20 + s)).toInt = (pf (20 + k)).toInt ∧ ((pf (50 + s)).toInt < (pf (50 + k)).toInt ∨ ((pf (50 + s)).toInt = (pf (50 + k)).toInt ∧ s < k)))))
theorem zq_none {t k : Nat} {cf pf : Nat → Int32} (h : zL t F G N Q cf pf) (hk : k < N 0) (h0 : pf (50 + k) = 0) : vX6_queue F G N Q (nI k) = -1 := by
  obtain ⟨hJ, hX, hM⟩ := h
  have e := (hM.2.2.2.2.2.1 k hk).2.2.2.2.2
  rcases zo_ord (hX.2.2.2.2.2 k hk) with ⟨a, b⟩ | ⟨a, x, x1, x2, x3, x4⟩
  · exact (zv_queue hJ hk).2.1 a
  · rw [e, x4] at h0
    exact absurd h0 (nI_ne0 (by omega) (by omega))
theorem zq_some {t k : Nat} {cf pf : Nat → Int32} (h : zL t F G N Q cf pf) (hk : k < N 0) (h0 : ¬ pf (50 + k) = 0) : vX6_queue F G N Q (nI k) = nI (zC (zAp pf k) (N 0)) := by
  obtain ⟨hJ, hX, hM⟩ := h
  have mi := fun j hj => hM.2.2.2.2.2.1 j hj
  have od := fun j hj => zo_ord (hX.2.2.2.2.2 j hj)
  have ek := (mi k hk).2.2.2.2.2
  rcases od k hk with ⟨a, b⟩ | ⟨a, x, x1, x2, x3, x4⟩
  · exact absurd (ek.trans b) h0
  · refine (zv_queue hJ hk).2.2.1 _ a (fun s hs => ?_)
    have es := (mi s hs).2.2.2.2.2
    rw [zAp, decide_eq_true_iff]
    show (¬ pf (50 + s) ≤ 0) ∧ zAh (fun i => pf (20 + i)) (fun i => pf (50 + i)) s k ↔ _
    have c20 := fun j hj => (mi j hj).2.2.1
    rcases od s hs with ⟨a', b'⟩ | ⟨a', y, y1, y2, y3, y4⟩
    · constructor
      · intro z
        exact absurd (show pf (50 + s) ≤ 0 by rw [es, b']; decide) z.1
      · intro z; exact absurd a' z.1
    · have cg : zAh (fun i => pf (20 + i)) (fun i => pf (50 + i)) s k ↔ zAh (G 8) (G 12) s k := zAh_congr (c20 s hs) (c20 k hk) (by show pf (50 + s) = _; rw [es, y4, y3]) (by show pf (50 + k) = _; rw [ek, x4, x3])
      rw [cg]
      constructor
      · intro z; exact ⟨a', z.2⟩
      · intro z; exact ⟨by rw [es, y4]; exact nI_nle (by omega) (by omega), z.2⟩
theorem z_hw {k x b : Nat} (hk : k < N 0) (hn : N 0 ≤ 30) (hx : x ≤ 3000) (e9 : G 9 k = nI b) (hb : b < 6) : vX6_hasWater F G N Q (nI k) (nI x) = (if G 10 k = 0 then (if (G 0 (x % 12) + G 1 x + 30) < G 7 k + 5 then 0 else if (G 0 ((x + 1) % 12) + G 1 (x + 1) + G 2 b) < G 7 k + 5 then 0 else 1) else if G 10 k = 2 then (if (G 0 (x % 12) + G 1 x + G 2 b) < G 7 k + 5 then 0 else if (G 0 ((x + 1) % 12) + G 1 (x + 1) + 30) < G 7 k + 5 then 0 else 1) else 0) := by
  have n10 : ¬ (1 : Int32) = 0 := by decide
  rw [(zv_hasWater hk hn hx).2, vX5_carries, vX5_carries, if_pos rfl, if_neg n10, nI_1, zv_dep (show x < 2 ^ 31 by omega), zv_dep (show x + 1 < 2 ^ 31 by omega), e9, nI_clamp (show b < 2 ^ 31 by omega)]
  by_cases a : G 10 k = 0
  · rw [if_pos a, if_pos a]
  · rw [if_neg a, if_neg a]
    by_cases a2 : G 10 k = 2
    · rw [if_pos a2, if_pos a2]
      by_cases p : (G 0 (x % 12) + G 1 x + G 2 b) < G 7 k + 5 <;> by_cases q : (G 0 ((x + 1) % 12) + G 1 (x + 1) + 30) < G 7 k + 5 <;> simp [p, q]
    · rw [if_neg a2, if_neg a2]
theorem z_mvs {t m : Nat} (hJ : zJ t F G N Q) (hm : m < N 1) : ∃ h p o, h ≤ t ∧ p < 6 ∧ o < 2 ∧ G 16 m = nI h ∧ G 18 m = nI p ∧ G 17 m = nI o ∧ Q 1 m < N 0 ∧ zH (G 16) m = h := by
  obtain ⟨a, b, c⟩ := hJ.mv m hm
  obtain ⟨h, h1, h2⟩ := hJ.ho.1 m hm
  obtain ⟨p, p1, p2⟩ := vp_in_of c (by decide)
  have ht := hJ.tt.1
  have hz : zH (G 16) m = h := by rw [zH, h2, nI_clamp (by omega)]
  rcases b with b | b
  · exact ⟨h, p, 0, h1, p1, by decide, h2, p2, b, a, hz⟩
  · exact ⟨h, p, 1, h1, p1, by decide, h2, p2, b, a, hz⟩
theorem z_cle {T h c : Nat} (hT : T < 2 ^ 30) (hh : h < 2 ^ 30) (hc : c < 2 ^ 30) : nI h ≤ nI T - nI c ↔ h + c ≤ T := by
  rw [Int32.le_iff_toInt_le, pk_sub_toInt hT hc, nI_toInt (by omega)]
  omega
/-- the pilot of a move was ready, and is not behind it -/
theorem z_pil {t m p : Nat} (hJ : zJ t F G N Q) (hm : m < N 1) (e16 : G 16 m = nI t) (e18 : G 18 m = nI p) (hp : p < 6) :
    (∀ j, j < m → G 18 j = nI p → zH (G 16) j + 6 ≤ t) ∧ zC (zP24 (G 16) (G 18) (nI p) t) m < 3 ∧ vX0_pilotIsReady F G N Q (nI p) (F 0) (N 1) = 0 := by
  obtain ⟨ht, eF⟩ := hJ.tt
  have n1 := hJ.n1
  have ho := hJ.ho
  have hs := (hJ.sa m hm).2.2.1
  have hom : zHo (G 16) t m := ⟨fun j hj => ho.1 j (by omega), fun i j hij hj => ho.2 i j hij (by omega)⟩
  rw [e18, e16, z_pr0 (nI p) (by omega) (by omega) hom, zPR] at hs
  have h6 : zC (zP6 (G 16) (G 18) (nI p) t) m = 0 := by
    apply Classical.byContradiction
    intro c
    rw [if_neg c] at hs
    exact hs rfl
  rw [if_pos h6] at hs
  refine ⟨fun j hj e => ?_, ?_, ?_⟩
  · have := zC_0.mp h6 j hj
    rw [zP6, decide_eq_false_iff_not] at this
    apply Classical.byContradiction
    intro c
    exact this ⟨e, by omega⟩
  · apply Classical.byContradiction
    intro c
    rw [if_pos (by omega)] at hs
    exact hs rfl
  · rw [eF, z_pr0 (nI p) (by omega) n1 ho, zPR, if_neg]
    intro c
    have := zC_0.mp c m hm
    rw [zP6, decide_eq_false_iff_not] at this
    refine this ⟨e18, ?_⟩
    rw [zH, e16, nI_clamp (by omega)]; omega
theorem z_p24t {hr pl : Nat → Int32} {p : Int32} {t j h : Nat} (e : pl j = p) (ez : zH hr j = h) (hh : t < h + 24) : zP24 hr pl p t j = true := by
  rw [zP24, decide_eq_true_iff, ez]; exact ⟨e, hh⟩
theorem z_p24f {hr pl : Nat → Int32} {p : Int32} {t j h : Nat} (ez : zH hr j = h) (hh : ¬ (pl j = p ∧ t < h + 24)) : zP24 hr pl p t j = false := by
  rw [zP24, decide_eq_false_iff_not, ez]; exact hh
theorem zC_tI {p : Nat → Bool} {n : Nat} (h : p n = true) : nI (zC p n) + 1 = nI (zC p (n + 1)) := by rw [zC_t h, nI_1]
theorem zC_fI {p : Nat → Bool} {n : Nat} (h : p n = false) : nI (zC p n) + 0 = nI (zC p (n + 1)) := by rw [zC_f h, Int32.add_zero]
end
