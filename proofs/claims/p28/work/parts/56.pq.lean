section
theorem z_ct {t : Nat} (h : t ≤ 3000) : ct (nI t) 3000 := ⟨t, h, rfl⟩
theorem zf_table {F : Nat → Int32} {G : Nat → Nat → Int32} {N : Nat → Nat} {Q : Nat → Nat → Nat} {f : Nat → Int32} {g : Nat → Nat → Int32} (a : Int32) (b : Int32) (h : zI F G N Q f g) : zXl [(1, 1), (2, 2), (3, 3)] (eX6_table F G N Q a b) ((sX7_table f g a b).1 0) (vX6_table F G N Q a b = vX7_table f g a b) ∧ zI F (hu G 0 (sX6_table F G N Q a b)) N Q (sX7_table f g a b).1 (sX7_table f g a b).2 := by
  have h0 := h
  obtain ⟨t, ⟨⟨ht, eF, f1, f18, f19, f5, f20⟩, hW, hP, hK, hE, hSt, hZ, hM, hO⟩, hS, hQ, hRI⟩ := h
  rw [eX6_table, sX7_table, vX6_table, vX7_table, sX6_table]
  have n1 := hM.1
  rcases z_pl (n := 12) a (m := 11) (k := 12) (by decide) (by decide) with ⟨p, q, r⟩ | ⟨p, q, r⟩
  · rw [if_pos q, if_pos q, if_pos q, if_neg r, if_neg r]
    rcases z_rg b 0 150 with ⟨p2, q2, r2⟩ | ⟨p2, q2, r2⟩
    · rw [if_pos q2, if_pos q2, if_pos q2, if_neg r2, if_neg r2, f20]
      by_cases c : nI (N 1) ≤ 0
      · have c0 : N 1 = 0 := by
          have := (nI_leI (b := 0) (by omega) (by omega)).mp c; omega
        rw [if_pos c, if_pos c, if_pos c, if_pos c, if_pos c]
        have e := hW.1 _ (vp_cl p)
        refine ⟨Or.inl ⟨rfl, rfl, e⟩, t, ⟨⟨ht, eF, f1, f18, f19, f5, f20⟩, ⟨zAg_up hW.1 _ rfl, hW.2⟩, hP, hK, hE, hSt, hZ, hM, hO⟩, fun m hm => ?_, hQ, hRI⟩
        exact absurd hm (by rw [c0]; omega)
      · rw [if_neg c, if_neg c, if_neg c, if_neg c, if_neg c, z_huid]
        exact ⟨Or.inr (List.mem_cons_of_mem _ (List.mem_cons_of_mem _ (List.mem_cons_self ..))), zI_f h0 3⟩
    · rw [q2, if_neg (show ¬ (2 : Nat) = 0 by decide), if_neg (show ¬ (2 : Nat) = 0 by decide), if_neg (show ¬ (2 : Nat) = 0 by decide), if_pos r2, if_pos r2, z_huid]
      exact ⟨Or.inr (List.mem_cons_of_mem _ (List.mem_cons_self ..)), zI_f h0 2⟩
  · rw [q, if_neg (show ¬ (1 : Nat) = 0 by decide), if_neg (show ¬ (1 : Nat) = 0 by decide), if_neg (show ¬ (1 : Nat) = 0 by decide), if_pos r, if_pos r, z_huid]
    exact ⟨Or.inr (List.mem_cons_self ..), zI_f h0 1⟩
theorem z_surge {F : Nat → Int32} {G : Nat → Nat → Int32} {N : Nat → Nat} {Q : Nat → Nat → Nat} {f : Nat → Int32} {g : Nat → Nat → Int32} {x y : Nat} {c : Int32} (h : zAg 3101 (G 1) (g 3)) (hx : x ≤ 3100) (hy : y ≤ 48) : zAg 3101 (sX5_tellSurge F G N Q x y c) (nf (bX7_wind_62 f g (nI x) (nI y) c) (g 3) y) ∧ ∀ j, j < x → sX5_tellSurge F G N Q x y c j = G 1 j := by
  have k6 := z_nfI (f := bX5_tellSurge_16 F G N Q x y c) (a := G 1) (fun k v => ∀ j, v j = if x ≤ j ∧ j < x + k then c else G 1 j) (eH x y - x) (fun j => by rw [if_neg (by omega)]) (by
    intro k hk v hv j
    have : eH x y ≤ x + y := by unfold eH; split <;> omega
    rw [bX5_tellSurge_16, nI_clamp (by omega)]
    by_cases q : j = x + k
    · rw [q, up_s, if_pos (by omega)]
    · rw [up_n q, hv j]
      by_cases d : x ≤ j ∧ j < x + k
      · rw [if_pos d, if_pos (by omega)]
      · rw [if_neg d, if_neg (by omega)])
  have k7 := z_nfI (f := bX7_wind_62 f g (nI x) (nI y) c) (a := g 3) (fun k v => ∀ j, v j = if x ≤ j ∧ j < x + k then c else g 3 j) y (fun j => by rw [if_neg (by omega)]) (by
    intro k hk v hv j
    rw [bX7_wind_62, nI_add, nI_clamp (by omega)]
    by_cases q : j = x + k
    · rw [q, up_s, if_pos (by omega)]
    · rw [up_n q, hv j]
      by_cases d : x ≤ j ∧ j < x + k
      · rw [if_pos d, if_pos (by omega)]
      · rw [if_neg d, if_neg (by omega)])
  refine ⟨fun j hj => ?_, fun j hj => ?_⟩
  · rw [sX5_tellSurge, k6 j, k7 j]
    by_cases d : x ≤ j ∧ j < x + y
    · rw [if_pos d, if_pos (by unfold eH; split <;> omega)]
    · rw [if_neg d, if_neg (fun z => d (by have : eH x y ≤ x + y := by unfold eH; split <;> omega
                                           omega))]
      exact h j hj
  · rw [sX5_tellSurge, k6 j, if_neg (by omega)]
theorem zf_wind {F : Nat → Int32} {G : Nat → Nat → Int32} {N : Nat → Nat} {Q : Nat → Nat → Nat} {f : Nat → Int32} {g : Nat → Nat → Int32} (a : Int32) (b : Int32) (c : Int32) (h : zI F G N Q f g) : zXl [(2, 1)] (eX6_wind F G N Q a b c) ((sX7_wind f g a b c).1 0) (vX6_wind F G N Q a b c = vX7_wind f g a b c) ∧ zI F (hu G 1 (sX6_wind F G N Q a b c)) N Q (sX7_wind f g a b c).1 (sX7_wind f g a b c).2 := by
  have h0 := h
  obtain ⟨t, ⟨⟨ht, eF, f1, f18, f19, f5, f20⟩, hW, hP, hK, hE, hSt, hZ, hM, hO⟩, hS, hQ, hRI⟩ := h
  rw [eX6_wind, sX7_wind, vX6_wind, vX7_wind, sX6_wind]
  rw [eF, f1]
  rcases z_rg a (nI t + 3) 3100 with ⟨p, q, r⟩ | ⟨p, q, r⟩
  · rw [if_pos q, if_pos q, if_pos q, if_neg r, if_neg r]
    rcases z_rg b 1 48 with ⟨p2, q2, r2⟩ | ⟨p2, q2, r2⟩
    · rw [if_pos q2, if_pos q2, if_pos q2, if_neg r2, if_neg r2]
      rcases z_rg c (-40) 40 with ⟨p3, q3, r3⟩ | ⟨p3, q3, r3⟩
      · rw [if_pos q3, if_pos q3, if_pos q3, if_neg r3, if_neg r3]
        obtain ⟨x, hx, hx2, ex⟩ : ∃ x, x ≤ 3100 ∧ t + 3 ≤ x ∧ a = nI x := by
          have e1 : (nI t + 3).toInt = (t : Int) + 3 := by
            rw [show nI t + 3 = nI (t + 3) from nI_add t 3, nI_toInt (by omega)]; omega
          have e2 : (3100 : Int32).toInt = 3100 := by decide
          obtain ⟨x, hx, ex⟩ := vp_in_of (x := a) (n := 3101) (vp_in_iff.mpr (by rw [e1, e2] at p; omega)) (by decide)
          refine ⟨x, by omega, ?_, ex⟩
          rw [e1, ex, nI_toInt (by omega)] at p; omega
        obtain ⟨y, hy, ey⟩ : ∃ y, y ≤ 48 ∧ b = nI y := by
          have e1 : (1 : Int32).toInt = 1 := by decide
          have e2 : (48 : Int32).toInt = 48 := by decide
          obtain ⟨x, hx, ex⟩ := vp_in_of (x := b) (n := 49) (vp_in_iff.mpr (by rw [e1, e2] at p2; omega)) (by decide)
          exact ⟨x, by omega, ex⟩
        rw [ex, ey, nI_clamp (show x < 2 ^ 31 by omega), nI_clamp (show y < 2 ^ 31 by omega)]
        obtain ⟨u1, u2⟩ := z_surge (F := F) (G := G) (N := N) (Q := Q) (f := f) (g := g) (c := c) hW.2.1 hx hy
        refine ⟨Or.inl ⟨rfl, rfl, hW.2.1 x (by omega)⟩, t, ⟨⟨ht, eF, f1, f18, f19, f5, f20⟩, ⟨hW.1, u1, hW.2.2⟩, hP, hK, hE, hSt, hZ, hM, hO⟩, fun m hm => ?_, hQ, hRI⟩
        have hm' : m < N 1 := hm
        obtain ⟨e, l⟩ := zHo_at hM.2.1 (by omega) hm'
        exact zSd_congr (F := F) (G := G) (N := N) (Q := Q) (h := zH (G 16) m) (by omega) e rfl (fun j hj => (u2 j (by omega)).symm) rfl rfl (fun k _ => rfl) (fun k _ => rfl) (fun k _ => rfl) (fun k _ => rfl) (fun k _ => rfl) (fun k _ => rfl) (hS m hm')
      · rw [q3, if_neg (show ¬ (2 : Nat) = 0 by decide), if_neg (show ¬ (2 : Nat) = 0 by decide), if_neg (show ¬ (2 : Nat) = 0 by decide), if_pos r3, if_pos r3, z_huid]
        exact ⟨Or.inr (List.mem_cons_self ..), zI_f h0 1⟩
    · rw [q2, if_neg (show ¬ (2 : Nat) = 0 by decide), if_neg (show ¬ (2 : Nat) = 0 by decide), if_neg (show ¬ (2 : Nat) = 0 by decide), if_pos r2, if_pos r2, z_huid]
      exact ⟨Or.inr (List.mem_cons_self ..), zI_f h0 1⟩
  · rw [q, if_neg (show ¬ (2 : Nat) = 0 by decide), if_neg (show ¬ (2 : Nat) = 0 by decide), if_neg (show ¬ (2 : Nat) = 0 by decide), if_pos r, if_pos r, z_huid]
    exact ⟨Or.inr (List.mem_cons_self ..), zI_f h0 1⟩
theorem zf_berth {F : Nat → Int32} {G : Nat → Nat → Int32} {N : Nat → Nat} {Q : Nat → Nat → Nat} {f : Nat → Int32} {g : Nat → Nat → Int32} (a : Int32) (b : Int32) (h : zI F G N Q f g) : zXl [(1, 1), (2, 2), (3, 3)] (eX6_berth F G N Q a b) ((sX7_berth f g a b).1 0) (vX6_berth F G N Q a b = vX7_berth f g a b) ∧ zI F (hu G 2 (sX6_berth F G N Q a b)) N Q (sX7_berth f g a b).1 (sX7_berth f g a b).2 := by
  have h0 := h
  obtain ⟨t, ⟨⟨ht, eF, f1, f18, f19, f5, f20⟩, hW, hP, hK, hE, hSt, hZ, hM, hO⟩, hS, hQ, hRI⟩ := h
  rw [eX6_berth, sX7_berth, vX6_berth, vX7_berth, sX6_berth]
  have n1 := hM.1
  rcases z_pl (n := 6) a (m := 5) (k := 6) (by decide) (by decide) with ⟨p, q, r⟩ | ⟨p, q, r⟩
  · rw [if_pos q, if_pos q, if_pos q, if_neg r, if_neg r]
    rcases z_rg b 0 200 with ⟨p2, q2, r2⟩ | ⟨p2, q2, r2⟩
    · rw [if_pos q2, if_pos q2, if_pos q2, if_neg r2, if_neg r2]
      have k0 := hK.1
      have same : vX0_hasMoveAt F G N Q a = 0 ↔ vX7_wasUsed f g a = 0 := by
        rw [z_used6, z_used7 hM.1 f20]
        have e : ∀ j, j < N 1 → G 9 (Q 1 j) = g 9 (g 22 j).toNatClampNeg := fun j hj => by
          obtain ⟨x1, x2, _, _⟩ := hM.2.2.2.1 j hj
          rw [x2, nI_clamp (by omega)]
          exact hK.2.2.2.2.2 _ x1
        exact ⟨fun z j hj => by rw [← e j hj]; exact z j hj, fun z j hj => by rw [e j hj]; exact z j hj⟩
      by_cases c : vX0_hasMoveAt F G N Q a = 0
      · have c7 := same.mp c
        rw [if_pos c, if_pos c, if_pos c, if_pos c7, if_pos c7]
        refine ⟨Or.inl ⟨rfl, rfl, hW.2.2 _ (vp_cl p)⟩, t, ⟨⟨ht, eF, f1, f18, f19, f5, f20⟩, ⟨hW.1, hW.2.1, zAg_up hW.2.2 _ rfl⟩, hP, hK, hE, hSt, hZ, hM, hO⟩, fun m hm => ?_, hQ, hRI⟩
        have hm' : m < N 1 := hm
        obtain ⟨e, l⟩ := zHo_at hM.2.1 (by omega) hm'
        have hb := (hK.2.1 _ (hM.2.2.2.1 m hm').1).2.2
        have ne : ¬ (G 9 (Q 1 m)).toNatClampNeg = a.toNatClampNeg := fun z => by
          obtain ⟨x, hx, ex⟩ := vp_in_of p (by decide)
          obtain ⟨y, hy, ey⟩ := vp_in_of hb (by decide)
          rw [ex, ey, nI_clamp (by omega), nI_clamp (by omega)] at z
          exact z_used6.mp c m hm' (by rw [ex, ey, z])
        exact zSd_congr (F := F) (G := G) (N := N) (Q := Q) (h := zH (G 16) m) (by omega) e rfl (fun j _ => rfl) (up_n ne).symm rfl (fun k _ => rfl) (fun k _ => rfl) (fun k _ => rfl) (fun k _ => rfl) (fun k _ => rfl) (fun k _ => rfl) (hS m hm')
      · have c7 : ¬ vX7_wasUsed f g a = 0 := fun z => c (same.mpr z)
        rw [if_neg c, if_neg c, if_neg c, if_neg c7, if_neg c7, z_huid]
        exact ⟨Or.inr (List.mem_cons_of_mem _ (List.mem_cons_of_mem _ (List.mem_cons_self ..))), zI_f h0 3⟩
    · rw [q2, if_neg (show ¬ (2 : Nat) = 0 by decide), if_neg (show ¬ (2 : Nat) = 0 by decide), if_neg (show ¬ (2 : Nat) = 0 by decide), if_pos r2, if_pos r2, z_huid]
      exact ⟨Or.inr (List.mem_cons_of_mem _ (List.mem_cons_self ..)), zI_f h0 2⟩
  · rw [q, if_neg (show ¬ (1 : Nat) = 0 by decide), if_neg (show ¬ (1 : Nat) = 0 by decide), if_neg (show ¬ (1 : Nat) = 0 by decide), if_pos r, if_pos r, z_huid]
    exact ⟨Or.inr (List.mem_cons_self ..), zI_f h0 1⟩
theorem zf_swap {F : Nat → Int32} {G : Nat → Nat → Int32} {N : Nat → Nat} {Q : Nat → Nat → Nat} {f : Nat → Int32} {g : Nat → Nat → Int32} (a : Int32) (b : Int32) (h : zI F G N Q f g) : zXl [(1, 1), (2, 2)] (eX6_swap F G N Q a b) ((sX7_swap f g a b).1 0) (vX6_swap F G N Q a b = vX7_swap f g a b) ∧ zI F (hu G 3 (sX6_swap F G N Q a b)) N Q (sX7_swap f g a b).1 (sX7_swap f g a b).2 := by
  have h0 := h
  obtain ⟨t, ⟨⟨ht, eF, f1, f18, f19, f5, f20⟩, hW, hP, hK, hE, hSt, hZ, hM, hO⟩, hS, hQ, hRI⟩ := h
  rw [eX6_swap, sX7_swap, vX6_swap, vX7_swap, sX6_swap]
  rcases z_pi a with ⟨p, q, r⟩ | ⟨p, q, r⟩
  · rw [if_pos q, if_pos q, if_pos q, if_neg r, if_neg r]
    rcases z_pi b with ⟨p2, q2, r2⟩ | ⟨p2, q2, r2⟩
    · rw [if_pos q2, if_pos q2, if_pos q2, if_neg r2, if_neg r2]
      by_cases c : a = b
      · rw [if_pos c, if_pos c, if_pos c, if_pos c, if_pos c, z_huid]
        exact ⟨Or.inr (List.mem_cons_of_mem _ (List.mem_cons_self ..)), zI_f h0 2⟩
      · rw [if_neg c, if_neg c, if_neg c, if_neg c, if_neg c]
        obtain ⟨u1, u2, u3⟩ := z_swap (F := F) (G := G) (N := N) (Q := Q) (f := hu f 0 (0 : Int32)) (g := g) hP.2.2 hP.1 p p2 c
        obtain ⟨i1, i2, i3, i4, i5, i6⟩ := hRI
        refine ⟨Or.inl ⟨rfl, rfl, u1⟩, t, ⟨⟨ht, eF, f1, f18, f19, f5, f20⟩, hW, ⟨u2, hP.2.1, u3⟩, hK, hE, hSt, hZ, hM, hO⟩, ?_, hQ, i1, i2, i3, i4, i5, fun j hj => ?_⟩
        · obtain ⟨t', g1, g2, g3, g4⟩ := h0
          exact z_sdr2 (i := 0) g1 g2 rfl rfl rfl rfl rfl rfl rfl rfl rfl rfl rfl
        · show vp_in (upd (upd (g 16) _ _) _ _ j) 6
          rw [← u2 j hj]; exact u3.1 j hj
    · rw [q2, if_neg (show ¬ (1 : Nat) = 0 by decide), if_neg (show ¬ (1 : Nat) = 0 by decide), if_neg (show ¬ (1 : Nat) = 0 by decide), if_pos r2, if_pos r2, z_huid]
      exact ⟨Or.inr (List.mem_cons_self ..), zI_f h0 1⟩
  · rw [q, if_neg (show ¬ (1 : Nat) = 0 by decide), if_neg (show ¬ (1 : Nat) = 0 by decide), if_neg (show ¬ (1 : Nat) = 0 by decide), if_pos r, if_pos r, z_huid]
    exact ⟨Or.inr (List.mem_cons_self ..), zI_f h0 1⟩
theorem zf_payClaim {F : Nat → Int32} {G : Nat → Nat → Int32} {N : Nat → Nat} {Q : Nat → Nat → Nat} {f : Nat → Int32} {g : Nat → Nat → Int32} (a : Int32) (h : zI F G N Q f g) : zXl [(1, 1), (3, 2)] (eX6_payClaim F G N Q a) ((sX7_payClaim f g a).1 0) (vX6_payClaim F G N Q a = vX7_payClaim f g a) ∧ zI (hu F 2 (sX6_payClaim F G N Q a).1) (hu (hu G 13 (sX6_payClaim F G N Q a).2.1) 15 (sX6_payClaim F G N Q a).2.2) N Q (sX7_payClaim f g a).1 (sX7_payClaim f g a).2 := by
  have h0 := h
  obtain ⟨t, ⟨⟨ht, eF, f1, f18, f19, f5, f20⟩, hW, hP, hK, hE, hSt, hZ, hM, hO⟩, hS, hQ, hRI⟩ := h
  rw [eX6_payClaim, sX7_payClaim, vX6_payClaim, vX7_payClaim, sX6_payClaim]
  rcases z_sh (F := F) (G := G) (Q := Q) (g := g) f5 hK.1 a with ⟨p, q, r⟩ | ⟨p, q, r⟩
  · rw [if_pos q, if_pos q, if_pos q, if_neg r, if_neg r]
    have hc := vp_cl p
    have e15 := hE.2.2.2.2 _ hc
    have e13 := hE.2.2.1 _ hc
    have e6 := hK.2.2.1 _ hc
    have sb : ∀ x y : Int32, x + -y = x - y := fun x y => (Int32.sub_eq_add_neg x y).symm
    by_cases c : G 15 a.toNatClampNeg = 0
    · have c7 : g 15 a.toNatClampNeg = 0 := e15.symm.trans c
      rw [if_pos c, if_pos c, if_pos c, if_pos c7, if_pos c7]
      simp only [z_huid]
      exact ⟨Or.inr (List.mem_cons_of_mem _ (List.mem_cons_self ..)), zI_f h0 2⟩
    · have c7 : ¬ g 15 a.toNatClampNeg = 0 := fun z => c (e15.trans z)
      rw [if_neg c, if_neg c, if_neg c, if_neg c7, if_neg c7]
      refine ⟨Or.inl ⟨rfl, rfl, by rw [e6]⟩, t, ⟨⟨ht, eF, f1, f18, ?_, f5, f20⟩, hW, hP, hK, ⟨hE.1, hE.2.1, zAg_up hE.2.2.1 _ (by rw [e13, e6, sb]), hE.2.2.2.1, zAg_up hE.2.2.2.2 _ (by rw [e15])⟩, hSt, fun j hj hj2 => ?_, hM, hO⟩, ?_, hQ, hRI⟩
      · show f 19 - (80 : Int32) * g 6 a.toNatClampNeg = F 2 + -((80 : Int32) * G 6 a.toNatClampNeg)
        rw [f19, e6, sb]
      · obtain ⟨x1, x2, x3, x4⟩ := hZ j hj hj2
        refine ⟨x1, ?_, x3, ?_⟩
        · show upd (g 13) a.toNatClampNeg _ j = 0
          rw [up_n (by omega)]; exact x2
        · show upd (g 15) a.toNatClampNeg _ j = 0
          rw [up_n (by omega)]; exact x4
      · obtain ⟨t', g1, g2, g3, g4⟩ := h0
        exact z_sdr2 (i := 0) g1 g2 rfl rfl rfl rfl rfl rfl rfl rfl rfl rfl rfl
  · rw [q, if_neg (show ¬ (1 : Nat) = 0 by decide), if_neg (show ¬ (1 : Nat) = 0 by decide), if_neg (show ¬ (1 : Nat) = 0 by decide), if_pos r, if_pos r]
    simp only [z_huid]
    exact ⟨Or.inr (List.mem_cons_self ..), zI_f h0 1⟩
theorem zf_cancel {F : Nat → Int32} {G : Nat → Nat → Int32} {N : Nat → Nat} {Q : Nat → Nat → Nat} {f : Nat → Int32} {g : Nat → Nat → Int32} (a : Int32) (h : zI F G N Q f g) : zXl [(1, 1), (3, 2)] (eX6_cancel F G N Q a) ((sX7_cancel f g a).1 0) (vX6_cancel F G N Q a = vX7_cancel f g a) ∧ zI F (hu G 12 (sX6_cancel F G N Q a).2.2) (hu N 2 (sX6_cancel F G N Q a).1) (hu Q 0 (sX6_cancel F G N Q a).2.1) (sX7_cancel f g a).1 (sX7_cancel f g a).2 := by
  have h0 := h
  obtain ⟨t, ⟨⟨ht, eF, f1, f18, f19, f5, f20⟩, hW, hP, hK, hE, hSt, hZ, hM, hO⟩, hS, hQ, hRI⟩ := h
  rw [eX6_cancel, sX7_cancel, vX6_cancel, vX7_cancel, sX6_cancel]
  have k0 := hK.1
  have hle := zQ_le hQ
  rcases z_sh (F := F) (G := G) (Q := Q) (g := g) f5 hK.1 a with ⟨p, q, r⟩ | ⟨p, q, r⟩
  · rw [if_pos q, if_pos q, if_pos q, if_neg r, if_neg r]
    have hc := vp_cl p
    have e12 := hE.2.1 _ hc
    have ho : vX4_hasOrder F G N Q a.toNatClampNeg = 0 ↔ G 12 a.toNatClampNeg = -1 := by
      rw [vX4_hasOrder]
      by_cases c : G 12 a.toNatClampNeg = -1
      · rw [if_pos c]; exact ⟨fun _ => c, fun _ => rfl⟩
      · rw [if_neg c]; exact ⟨fun z => absurd z (by decide), fun z => absurd z c⟩
    by_cases c : G 12 a.toNatClampNeg = -1
    · have c6 := ho.mpr c
      have c7 : g 11 a.toNatClampNeg = -1 := e12.symm.trans c
      rw [if_pos c6, if_pos c6, if_pos c6, if_pos c7, if_pos c7]
      simp only [z_huid]
      exact ⟨Or.inr (List.mem_cons_of_mem _ (List.mem_cons_self ..)), zI_f h0 2⟩
    · have c6 : ¬ vX4_hasOrder F G N Q a.toNatClampNeg = 0 := fun z => c (ho.mp z)
      have c7 : ¬ g 11 a.toNatClampNeg = -1 := fun z => c (e12.trans z)
      obtain ⟨k, hk, ek⟩ := hQ.2.1 _ hc c
      have pp := (pO_spec (F := F) (G := G) (N := N) (Q := Q) (i2 := a.toNatClampNeg) (by omega)).resolve_left (fun z => z.2 k hk ek)
      obtain ⟨y1, y2, y3, y4⟩ := pp
      rw [if_neg c6, if_neg c6, if_neg c6, if_neg c7, if_neg c7, sX2_drop, if_neg (show ¬ vX2_placeOf F G N Q a.toNatClampNeg = (-1 : Int32) by rw [y1]; exact z_m1 (by omega))]
      refine ⟨Or.inl ⟨rfl, rfl, e12⟩, t, ⟨⟨ht, eF, f1, f18, f19, f5, f20⟩, hW, hP, hK, ⟨hE.1, zAg_up hE.2.1 _ rfl, hE.2.2⟩, zS_drop hSt, hZ, hM, hO⟩, ?_, z_del hQ y2 y3, hRI⟩
      obtain ⟨t', g1, g2, g3, g4⟩ := h0
      exact z_sdr2 (i := 0) g1 g2 rfl rfl rfl rfl rfl rfl rfl rfl rfl rfl rfl
  · rw [q, if_neg (show ¬ (1 : Nat) = 0 by decide), if_neg (show ¬ (1 : Nat) = 0 by decide), if_neg (show ¬ (1 : Nat) = 0 by decide), if_pos r, if_pos r]
    simp only [z_huid]
    exact ⟨Or.inr (List.mem_cons_self ..), zI_f h0 1⟩
end
