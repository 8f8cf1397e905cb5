section
theorem zAg_up2 {n : Nat} {a b : Nat → Int32} (h : zAg n a b) {i j : Nat} (q : i = j) {x y : Int32} (e : x = y) : zAg n (upd a i x) (upd b j y) := by
  rw [← q]; exact zAg_up h i e
theorem z_lose6 {F : Nat → Int32} {G : Nat → Nat → Int32} {N : Nat → Nat} {Q : Nat → Nat → Nat} {i : Nat} : sX6_loseTide F G N Q i = (upd (upd (G 4) (G 3 0).toNatClampNeg (G 4 (G 3 0).toNatClampNeg + (50 : Int32))) (G 3 1).toNatClampNeg (upd (G 4) (G 3 0).toNatClampNeg (G 4 (G 3 0).toNatClampNeg + (50 : Int32)) (G 3 1).toNatClampNeg + (50 : Int32)), upd (G 13) i (G 13 i + (50 : Int32) + (50 : Int32)), upd (G 14) i (G 14 i + (1 : Int32))) := by
  have e0 : (nI 0).toNatClampNeg = 0 := rfl
  have e1 : (nI 1).toNatClampNeg = 1 := rfl
  simp only [sX6_loseTide, nf, bX6_loseTide_12, e0, e1, up_s, z_uu]
theorem z_claim {t : Nat} {F : Nat → Int32} {G : Nat → Nat → Int32} {N : Nat → Nat} {Q : Nat → Nat → Nat} {f : Nat → Int32} {g : Nat → Nat → Int32} {i : Nat} (h : zR t F G N Q f g) (hi : i < N 0) : zR t (zwF F (zClm F G N Q i)) (zwG G (zClm F G N Q i) i) (hu N 1 (zClm F G N Q i).1) (hu Q 1 (zClm F G N Q i).2.1) f (hu (hu g 15 (upd (g 15) i (g 15 i + (1 : Int32)))) 11 (upd (g 11) i (-1))) := by
  obtain ⟨hT, hW, hP, hK, ⟨e10, e12, e13, e14, e15⟩, hS, hZ, hM, hO⟩ := h
  refine ⟨hT, hW, hP, hK, ⟨e10, zAg_up e12 i rfl, e13, e14, zAg_up e15 i (by rw [e15 i hi])⟩, zS_drop hS, fun j hj hj2 => ?_, hM, hO⟩
  have hj : N 0 ≤ j := hj
  obtain ⟨a, b, c, d⟩ := hZ j hj hj2
  refine ⟨a, b, c, ?_⟩
  show upd (g 15) i _ j = 0
  rw [up_n (by omega)]; exact d
theorem z_lost {t : Nat} {F : Nat → Int32} {G : Nat → Nat → Int32} {N : Nat → Nat} {Q : Nat → Nat → Nat} {f : Nat → Int32} {g : Nat → Nat → Int32} {i : Nat} (h : zR t F G N Q f g) (hi : i < N 0) : zR t (zwF F (zLose F G N Q i)) (zwG G (zLose F G N Q i) i) (hu N 1 (zLose F G N Q i).1) (hu Q 1 (zLose F G N Q i).2.1) (sX7_loses f g (nI i)).1 (sX7_loses f g (nI i)).2 := by
  obtain ⟨hT, hW, ⟨p1, p2, p3⟩, hK, ⟨e10, e12, e13, e14, e15⟩, hS, hZ, hM, hO⟩ := h
  have k0 := hK.1
  have z0 : ((0 : Int32)).toNatClampNeg = 0 := rfl
  have z1 : ((1 : Int32)).toNatClampNeg = 1 := rfl
  rw [sX7_loses, nI_clamp (show i < 2 ^ 31 by omega), zLose, z_lose6, z0, z1]
  have r0 : (G 3 0).toNatClampNeg = (g 16 0).toNatClampNeg := by rw [p1 0 (by omega)]
  have r1 : (G 3 1).toNatClampNeg = (g 16 1).toNatClampNeg := by rw [p1 1 (by omega)]
  have b0 : (G 3 0).toNatClampNeg < 6 := vp_cl (p3.1 0 (by omega))
  have b1 : (G 3 1).toNatClampNeg < 6 := vp_cl (p3.1 1 (by omega))
  have s1 : zAg 6 (upd (G 4) (G 3 0).toNatClampNeg (G 4 (G 3 0).toNatClampNeg + (50 : Int32))) (upd (g 17) (g 16 0).toNatClampNeg (g 17 (g 16 0).toNatClampNeg + (50 : Int32))) := zAg_up2 p2 r0 (by rw [p2 _ b0, r0])
  refine ⟨hT, hW, ⟨p1, zAg_up2 s1 r1 (by rw [s1 _ b1, r1]), p3⟩, hK, ⟨e10, zAg_up e12 i rfl, zAg_up e13 i ?_, zAg_up e14 i (by rw [e14 i hi]), e15⟩, zS_drop hS, fun j hj hj2 => ?_, hM, hO⟩
  · rw [e13 i hi, Int32.add_assoc]; rfl
  · have hj : N 0 ≤ j := hj
    obtain ⟨a, b, c, d⟩ := hZ j hj hj2
    refine ⟨a, ?_, ?_, d⟩
    · show upd (g 13) i _ j = 0
      rw [up_n (by omega)]; exact b
    · show upd (g 14) i _ j = 0
      rw [up_n (by omega)]; exact c
theorem z_nar0 : vp_nar .boolean (0 : Int32) = 0 := rfl
theorem z_nar1 : vp_nar .boolean (1 : Int32) = 1 := rfl
theorem z_tgW {t n w : Nat} {F : Nat → Int32} {G : Nat → Nat → Int32} {N : Nat → Nat} {Q : Nat → Nat → Nat} {f : Nat → Int32} {g : Nat → Nat → Int32} {x16 x22 x23 : Nat → Int32} {y : Int32} (ht : t ≤ 3000) (hn : n ≤ 100) (hh : zHo (G 16) t n) (hg : zTg (G 19) n) (f1 : f 1 = nI t) (f20 : f 20 = nI n) (m5 : zAg n (G 16) (g 21)) (m8 : zAg n (G 19) (g 24)) (w6 : vX0_readyTugs F G N Q (nI t) n = nI w) : vX7_tugsNow f (hu (hu (hu (hu g 16 x16) 21 (upd (g 21) (f 20).toNatClampNeg y)) 22 x22) 23 x23) = nI w := by
  have ec : (f 20).toNatClampNeg = n := by rw [f20, nI_clamp (by omega)]
  obtain ⟨w', hw', a, b⟩ := z_tgE (F := F) (G := G) (N := N) (Q := Q) (f := f) (g := hu (hu (hu (hu g 16 x16) 21 (upd (g 21) (f 20).toNatClampNeg y)) 22 x22) 23 x23) (show t ≤ 3001 by omega) hn hh hg f1 f20 (by rw [ec]; exact zAg_out m5 (Nat.le_refl _) y) m8
  rw [b, ← a, w6]
theorem z_begun {t : Nat} {F : Nat → Int32} {G : Nat → Nat → Int32} {N : Nat → Nat} {Q : Nat → Nat → Nat} {f : Nat → Int32} {g : Nat → Nat → Int32} {i : Nat} {o : Int32} (h : zR t F G N Q f g) (hS : zSA F G N Q) (hi : i < N 0) (ho : (G 10 i = 2 ∧ o = 1) ∨ (G 10 i = 0 ∧ o = 0)) (hc : ¬ vX5_carries F G N Q i o (nI t) = 0) (hcan : zCan6 F G N Q i o) :
    zR t (zwF F (zBeg F G N Q i o)) (zwG G (zBeg F G N Q i o) i) (hu N 1 (zBeg F G N Q i o).1) (hu Q 1 (zBeg F G N Q i o).2.1) (sX7_begins f g (nI i)).1 (sX7_begins f g (nI i)).2 ∧ zSA (zwF F (zBeg F G N Q i o)) (zwG G (zBeg F G N Q i o) i) (hu N 1 (zBeg F G N Q i o).1) (hu Q 1 (zBeg F G N Q i o).2.1) := by
  obtain ⟨p, w, k, hp, fr7, fr6, hpr, hw, w6, w7, hk, ek, hmany⟩ := (z_can h hi ho).2 hcan
  obtain ⟨⟨ht, eF, f1, f18, f19, f5, f20⟩, hW, ⟨p1, p2, p3⟩, hK, ⟨e10, e12, e13, e14, e15⟩, hSt, hZ, hM, hO⟩ := h
  have hM0 := hM
  obtain ⟨m1, m2, m3, m4, m5, m6, m7, m8⟩ := hM
  have k0 := hK.1
  have n100 : N 1 < 100 := (nI_ltI (b := 100) (by omega) (by omega)).mp hcan.1
  have e6 : G 6 i = g 6 i := hK.2.2.1 i hi
  have ec : (f 20).toNatClampNeg = N 1 := by rw [f20, nI_clamp (by omega)]
  have e16 : g 16 (vX7_firstReady f g).toNatClampNeg = G 3 p := by rw [fr7, nI_clamp (by omega)]; exact (p1 p hp).symm
  have bp : (G 3 p).toNatClampNeg < 6 := vp_cl (p3.1 p hp)
  have lo : vX6_lowestOf (vX0_readyTugs F G N Q (F 0) (N 1)) (G 6 i) = vX7_lowest (nI w) (nI (k + 1)) := by rw [eF, w6, ek]; exact z_low2 w hw k hk hmany
  have lo4 : nI (vX7_lowest (nI w) (nI (k + 1))).toNatClampNeg = vX7_lowest (nI w) (nI (k + 1)) := by rw [← z_low2 w hw k hk hmany]; exact z_low4 w hw k hk
  have lo5 : (vX7_lowest (nI w) (nI (k + 1))).toNatClampNeg < 64 := by rw [← z_low2 w hw k hk hmany]; exact z_low5 w hw k hk
  have lo6 : (vX7_lowest (nI w) (nI (k + 1)) &&& (vX0_readyTugs F G N Q (nI t) (N 1) ^^^ (-1 : Int32))) = 0 := by rw [w6, ← z_low2 w hw k hk hmany]; exact z_low6 w hw k hk
  have s7 := z_send7 (f := f) (g := g) (a := nI i) hp fr7
  have s6 := z_send6 (F := F) (G := G) (N := N) (Q := Q) hp p3
  have P3 : ∀ r : Nat → Int32, (∀ j, j < 6 → r j = g 16 (zSi p j)) → zAg 6 (sX3_sendLast F G N Q (G 3 p)) r := fun r hr j hj => by rw [s6 j hj, hr j hj]; exact p1 _ (zSi_lt hp hj)
  have P4 : zAg 6 (upd (G 4) (G 3 p).toNatClampNeg (G 4 (G 3 p).toNatClampNeg + (50 : Int32))) (upd (g 17) (G 3 p).toNatClampNeg (g 17 (G 3 p).toNatClampNeg + (50 : Int32))) := zAg_up p2 _ (by rw [p2 _ bp])
  have e625 : G 6 i = nI (k + 1) := ek
  rcases ho with ⟨st, oo⟩ | ⟨st, oo⟩
  · rw [oo] at hcan hc ⊢
    have b6 := (z_beg1 hcan).2
    have g10 : ¬ g 10 i = 0 := by rw [← e10 i hi, st]; decide
    rw [zBeg, b6, fr6, lo, sX7_begins, nI_clamp (show i < 2 ^ 31 by omega), if_neg g10]
    refine ⟨⟨⟨ht, eF, f1, ?_, ?_, f5, ?_⟩, hW, ⟨P3 _ s7, ?_, zPm_send hp p3 s6⟩, hK, ⟨zAg_up e10 i rfl, zAg_up e12 i rfl, zAg_up e13 i ?_, e14, e15⟩, ?_, fun j hj hj2 => ?_, ?_, ?_⟩, ?_⟩
    · show f 18 + (30 : Int32) * g 6 i = F 1 + (30 : Int32) * G 6 i
      rw [f18, e6]
    · show f 19 + (0 : Int32) = F 2
      rw [f19, Int32.add_zero]
    · show f 20 + (1 : Int32) = nI (N 1 + 1)
      rw [f20, nI_1]
    · show zAg 6 (upd (G 4) (G 3 p).toNatClampNeg (G 4 (G 3 p).toNatClampNeg + (50 : Int32))) (upd (g 17) (g 16 (vX7_firstReady f g).toNatClampNeg).toNatClampNeg (g 17 (g 16 (vX7_firstReady f g).toNatClampNeg).toNatClampNeg + (50 : Int32)))
      rw [e16]; exact P4
    · rw [e13 i hi, e6, Int32.add_zero, Int32.add_assoc]
    · show zS (N 0) t (upd (G 10) i 3) (upd (G 11) i (F 0)) (upd (G 12) i (-1)) (upd (g 12) i (f 1))
      rw [eF, f1]; exact zS_beg hSt (Or.inr rfl)
    · have hj : N 0 ≤ j := hj
      obtain ⟨a, b, c, d⟩ := hZ j hj hj2
      refine ⟨?_, ?_, c, d⟩
      · show upd (g 10) i _ j = 0
        rw [up_n (by omega)]; exact a
      · show upd (g 13) i _ j = 0
        rw [up_n (by omega)]; exact b
    · show zM (N 0) (N 1 + 1) t (upd (G 16) (N 1) (F 0)) (upd (G 17) (N 1) 1) (upd (G 18) (N 1) (G 3 p)) (upd (G 19) (N 1) (vX7_lowest (nI w) (nI (k + 1)))) (va_up (Q 1) (N 1) i) (upd (g 21) (f 20).toNatClampNeg (f 1)) (upd (g 22) (f 20).toNatClampNeg (nI i)) (upd (g 23) (f 20).toNatClampNeg (g 16 (vX7_firstReady f g).toNatClampNeg)) (upd (g 24) (f 20).toNatClampNeg (vX7_lowest (vX7_tugsNow f _) (g 6 i))) (upd (g 25) (f 20).toNatClampNeg (vp_nar .boolean (1 : Int32)))
      rw [z_tgW (F := F) (G := G) (N := N) (Q := Q) ht m1 m2 m3 f1 f20 m5 m8 w6, ec, eF, f1, e16, ← e6, ek, z_nar1]
      exact zM_ext hM0 ht n100 hi (Or.inr rfl) (p3.1 p hp) lo5 lo4.symm
    · show zO (N 0) (N 1 + 1) t (upd (G 10) i 3) (upd (G 11) i (F 0)) (upd (G 16) (N 1) (F 0)) (upd (G 17) (N 1) 1) (va_up (Q 1) (N 1) i)
      rw [eF]; exact zO_beg ht m2 hO (Or.inr ⟨rfl, st, rfl⟩)
    · refine z_newS (F := F) (G := G) (N := N) (Q := Q) (t := t) (i := i) (n := N 1) (o := 1) (p := G 3 p) (tg := vX7_lowest (nI w) (nI (k + 1))) ht rfl m1 hS m2 (fun k hk => (m4 k hk).1) hO rfl rfl rfl rfl rfl rfl ?_ rfl rfl rfl rfl hc (fun z => absurd z (by decide)) hpr lo6
      show upd (G 16) (N 1) (F 0) = _
      rw [eF]
  · rw [oo] at hcan hc ⊢
    have b6 := (z_beg0 hcan).2
    have g10 : g 10 i = 0 := by rw [← e10 i hi, st]
    rw [zBeg, b6, fr6, lo, sX7_begins, nI_clamp (show i < 2 ^ 31 by omega), if_pos g10]
    refine ⟨⟨⟨ht, eF, f1, ?_, ?_, f5, ?_⟩, hW, ⟨P3 _ s7, ?_, zPm_send hp p3 s6⟩, hK, ⟨zAg_up e10 i rfl, zAg_up e12 i rfl, zAg_up e13 i ?_, e14, e15⟩, ?_, fun j hj hj2 => ?_, ?_, ?_⟩, ?_⟩
    · show f 18 + (30 : Int32) * g 6 i = F 1 + (30 : Int32) * G 6 i
      rw [f18, e6]
    · show f 19 + (100 : Int32) * g 6 i = F 2 + (100 : Int32) * G 6 i
      rw [f19, e6]
    · show f 20 + (1 : Int32) = nI (N 1 + 1)
      rw [f20, nI_1]
    · show zAg 6 (upd (G 4) (G 3 p).toNatClampNeg (G 4 (G 3 p).toNatClampNeg + (50 : Int32))) (upd (g 17) (g 16 (vX7_firstReady f g).toNatClampNeg).toNatClampNeg (g 17 (g 16 (vX7_firstReady f g).toNatClampNeg).toNatClampNeg + (50 : Int32)))
      rw [e16]; exact P4
    · rw [e13 i hi, e6, Int32.add_assoc, Int32.add_assoc, Int32.add_assoc]
    · show zS (N 0) t (upd (G 10) i 1) (upd (G 11) i (F 0)) (upd (G 12) i (-1)) (upd (g 12) i (f 1))
      rw [eF, f1]; exact zS_beg hSt (Or.inl rfl)
    · have hj : N 0 ≤ j := hj
      obtain ⟨a, b, c, d⟩ := hZ j hj hj2
      refine ⟨?_, ?_, c, d⟩
      · show upd (g 10) i _ j = 0
        rw [up_n (by omega)]; exact a
      · show upd (g 13) i _ j = 0
        rw [up_n (by omega)]; exact b
    · show zM (N 0) (N 1 + 1) t (upd (G 16) (N 1) (F 0)) (upd (G 17) (N 1) 0) (upd (G 18) (N 1) (G 3 p)) (upd (G 19) (N 1) (vX7_lowest (nI w) (nI (k + 1)))) (va_up (Q 1) (N 1) i) (upd (g 21) (f 20).toNatClampNeg (f 1)) (upd (g 22) (f 20).toNatClampNeg (nI i)) (upd (g 23) (f 20).toNatClampNeg (g 16 (vX7_firstReady f g).toNatClampNeg)) (upd (g 24) (f 20).toNatClampNeg (vX7_lowest (vX7_tugsNow f _) (g 6 i))) (upd (g 25) (f 20).toNatClampNeg (vp_nar .boolean (0 : Int32)))
      rw [z_tgW (F := F) (G := G) (N := N) (Q := Q) ht m1 m2 m3 f1 f20 m5 m8 w6, ec, eF, f1, e16, ← e6, ek, z_nar0]
      exact zM_ext hM0 ht n100 hi (Or.inl rfl) (p3.1 p hp) lo5 lo4.symm
    · show zO (N 0) (N 1 + 1) t (upd (G 10) i 1) (upd (G 11) i (F 0)) (upd (G 16) (N 1) (F 0)) (upd (G 17) (N 1) 0) (va_up (Q 1) (N 1) i)
      rw [eF]; exact zO_beg ht m2 hO (Or.inl ⟨rfl, st, rfl⟩)
    · refine z_newS (F := F) (G := G) (N := N) (Q := Q) (t := t) (i := i) (n := N 1) (o := 0) (p := G 3 p) (tg := vX7_lowest (nI w) (nI (k + 1))) ht rfl m1 hS m2 (fun k hk => (m4 k hk).1) hO rfl rfl rfl rfl rfl rfl ?_ rfl rfl rfl rfl hc (fun _ => ?_) hpr lo6
      · show upd (G 16) (N 1) (F 0) = _
        rw [eF]
      · have := hcan.2.1 rfl
        rw [z_free6] at this
        exact Decidable.not_not.mp this
end
