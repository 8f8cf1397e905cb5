section
theorem z_looks0 {f : Nat → Int32} {g : Nat → Nat → Int32} {a : Int32} : (sX7_looksAt f g a).1 0 = f 0 := by
  have b : (sX7_begins f g a).1 0 = f 0 := by
    rw [sX7_begins]; split <;> rfl
  rw [sX7_looksAt]
  repeat' split
  all_goals first | rfl | exact b
theorem z_passes0 {f : Nat → Int32} {g : Nat → Nat → Int32} : (sX7_passes f g).1 0 = f 0 := by
  rw [sX7_passes]
  refine z_nfI (f := bX7_passes_129 f g) (fun _ v => v.2.1 0 = f 0) _ rfl (fun j _ v hv => ?_)
  obtain ⟨v0, v1, v2⟩ := v
  rw [bX7_passes_129]
  split
  · exact hv
  · exact z_looks0.trans hv
theorem z_pass0 (f : Nat → Int32) (g : Nat → Nat → Int32) (a : Int32) (u : (Nat → Int32) × (Nat → Nat → Int32)) (n : Nat) : (nf (bX7_pass_47 f g a) u n).1 0 = u.1 0 := by
  refine z_nfI (f := bX7_pass_47 f g a) (fun _ v => v.1 0 = u.1 0) n rfl (fun j _ v hv => ?_)
  obtain ⟨v0, v1⟩ := v
  exact z_passes0.trans hv
theorem zAg_e1 {n : Nat} {a b : Nat → Int32} (h : zAg n a b) {x : Int32} (e : x = b n) : zAg (n + 1) (upd a n x) b := by
  intro j hj
  by_cases q : j = n
  · rw [q, up_s]; exact e
  · rw [up_n q]; exact h j (by omega)
theorem zf_ship {F : Nat → Int32} {G : Nat → Nat → Int32} {N : Nat → Nat} {Q : Nat → Nat → Nat} {f : Nat → Int32} {g : Nat → Nat → Int32} (a : Int32) (b : Int32) (c : Int32) (d : Int32) (h : zI F G N Q f g) : zXl [(1, 1), (2, 2), (3, 3)] (eX6_ship F G N Q a b c d) ((sX7_ship f g a b c d).1 0) (vX6_ship F G N Q a b c d = vX7_ship f g a b c d) ∧ zI F (hu (hu (hu (hu (hu (hu (hu (hu (hu (hu (hu G 5 (sX6_ship F G N Q a b c d).2.1) 6 (sX6_ship F G N Q a b c d).2.2.1) 7 (sX6_ship F G N Q a b c d).2.2.2.1) 8 (sX6_ship F G N Q a b c d).2.2.2.2.1) 9 (sX6_ship F G N Q a b c d).2.2.2.2.2.1) 10 (sX6_ship F G N Q a b c d).2.2.2.2.2.2.1) 11 (sX6_ship F G N Q a b c d).2.2.2.2.2.2.2.1) 12 (sX6_ship F G N Q a b c d).2.2.2.2.2.2.2.2.1) 13 (sX6_ship F G N Q a b c d).2.2.2.2.2.2.2.2.2.1) 14 (sX6_ship F G N Q a b c d).2.2.2.2.2.2.2.2.2.2.1) 15 (sX6_ship F G N Q a b c d).2.2.2.2.2.2.2.2.2.2.2) (hu N 0 (sX6_ship F G N Q a b c d).1) Q (sX7_ship f g a b c d).1 (sX7_ship f g a b c d).2 := by
  have h0 := h
  obtain ⟨t, ⟨⟨ht, eF, f1, f18, f19, f5, f20⟩, hW, hP, hK, hE, hSt, hZ, hM, hO⟩, hS, hQ, hRI⟩ := h
  rw [eX6_ship, sX7_ship, vX6_ship, vX7_ship, sX6_ship]
  have k0 := hK.1
  rcases z_pl (n := 6) d (m := 5) (k := 6) (by decide) (by decide) with ⟨p, q, r⟩ | ⟨p, q, r⟩
  · rw [if_pos q, if_pos q, if_pos q]
    simp only [if_neg r]
    rcases z_rg a 1 4 with ⟨p1, q1, r1⟩ | ⟨p1, q1, r1⟩
    · rw [if_pos q1, if_pos q1, if_pos q1, if_neg r1, if_neg r1]
      rcases z_rg b 10 150 with ⟨p2, q2, r2⟩ | ⟨p2, q2, r2⟩
      · rw [if_pos q2, if_pos q2, if_pos q2, if_neg r2, if_neg r2]
        rcases z_rg c 0 3 with ⟨p3, q3, r3⟩ | ⟨p3, q3, r3⟩
        · rw [if_pos q3, if_pos q3, if_pos q3, if_neg r3, if_neg r3, f5]
          have l30 : nI (N 0) < (30 : Int32) ↔ N 0 < 30 := nI_ltI (b := 30) (by omega) (by omega)
          have e30 : nI (N 0) = (30 : Int32) ↔ N 0 = 30 := nI_eq (b := 30) (by omega) (by omega)
          by_cases z : N 0 < 30
          · have z7 : ¬ nI (N 0) = (30 : Int32) := fun y => by have := e30.mp y; omega
            rw [if_pos (l30.mpr z), if_pos (l30.mpr z), if_pos (l30.mpr z), if_neg z7, if_neg z7, nI_clamp (show N 0 < 2 ^ 31 by omega), nI_1]
            obtain ⟨y1, y2, y3, y4⟩ := hZ (N 0) (Nat.le_refl _) z
            obtain ⟨kk, hkk, ekk⟩ : ∃ k, k < 4 ∧ a = nI (k + 1) := by
              have e1 : (1 : Int32).toInt = 1 := by decide
              have e2 : (4 : Int32).toInt = 4 := by decide
              obtain ⟨x, hx, ex⟩ := vp_in_of (x := a) (n := 5) (vp_in_iff.mpr (by rw [e1, e2] at p1; omega)) (by decide)
              have : 1 ≤ x := by rw [e1, ex, nI_toInt (by omega)] at p1; omega
              exact ⟨x - 1, by omega, by rw [ex, show x - 1 + 1 = x by omega]⟩
            obtain ⟨kz1, kz2, kz3, kz4, kz5, kz6⟩ := hK
            obtain ⟨ez1, ez2, ez3, ez4, ez5⟩ := hE
            have keep : ∀ (u : Nat → Int32) (x : Int32) (s : Nat), s < N 0 → upd u (N 0) x s = u s := fun u x s hs => up_n (by omega)
            refine ⟨Or.inl ⟨rfl, rfl, ?_⟩, t, ⟨⟨ht, eF, f1, f18, f19, ?_, f20⟩, hW, hP, ⟨?_, fun j hj => ?_, ?_, ?_, ?_, ?_⟩, ⟨?_, ?_, ?_, ?_, ?_⟩, fun j hj => ?_, fun j hj hj2 => ?_, ?_, fun s hs => ?_⟩, fun m hm => ?_, ?_, ?_⟩
            · exact (nI_pred (N 0)).symm
            · rfl
            · show N 0 + 1 ≤ 30
              omega
            · have hj' : j < N 0 + 1 := hj
              show upd (G 5) (N 0) (nI (N 0)) j = nI j ∧ (∃ k, k < 4 ∧ upd (G 6) (N 0) a j = nI (k + 1)) ∧ vp_in (upd (G 9) (N 0) d j) 6
              by_cases w : j = N 0
              · rw [w, up_s, up_s, up_s]; exact ⟨rfl, ⟨kk, hkk, ekk⟩, p⟩
              · rw [up_n w, up_n w, up_n w]; exact kz2 j (by omega)
            · exact zAg_ext kz3 rfl
            · exact zAg_ext kz4 rfl
            · exact zAg_ext kz5 rfl
            · exact zAg_ext kz6 rfl
            · exact zAg_e1 ez1 y1.symm
            · exact zAg_ext ez2 rfl
            · exact zAg_e1 ez3 y2.symm
            · exact zAg_e1 ez4 y3.symm
            · exact zAg_e1 ez5 y4.symm
            · have hj' : j < N 0 + 1 := hj
              show (upd (G 10) (N 0) 0 j = 0 ∨ upd (G 10) (N 0) 0 j = 1 ∨ upd (G 10) (N 0) 0 j = 2 ∨ upd (G 10) (N 0) 0 j = 3 ∨ upd (G 10) (N 0) 0 j = 4) ∧ ((upd (G 10) (N 0) 0 j = 1 ∨ upd (G 10) (N 0) 0 j = 3) → upd (G 11) (N 0) (-1) j = g 12 j ∧ ∃ h, h ≤ t ∧ upd (G 11) (N 0) (-1) j = nI h) ∧ (upd (G 12) (N 0) (-1) j = -1 ∨ ((upd (G 10) (N 0) 0 j = 0 ∨ upd (G 10) (N 0) 0 j = 2) ∧ ∃ h, h ≤ 3000 ∧ upd (G 12) (N 0) (-1) j = nI h))
              by_cases w : j = N 0
              · rw [w, up_s, up_s, up_s]; exact ⟨Or.inl rfl, fun x => by rcases x with x | x <;> exact absurd x (by decide), Or.inl rfl⟩
              · rw [up_n w, up_n w, up_n w]; exact hSt j (by omega)
            · exact hZ j (by have : N 0 + 1 ≤ j := hj; omega) hj2
            · exact ⟨hM.1, hM.2.1, hM.2.2.1, fun k hk => by
                obtain ⟨x1, x2, x3, x4⟩ := hM.2.2.2.1 k hk
                exact ⟨Nat.lt_succ_of_lt x1, x2, x3, x4⟩, hM.2.2.2.2⟩
            · have hs' : s < N 0 + 1 := hs
              show zC (zIn (G 17) (Q 1) s) (N 1) = (if upd (G 10) (N 0) 0 s = 0 then 0 else 1) ∧ zC (zOu (G 17) (Q 1) s) (N 1) = (if upd (G 10) (N 0) 0 s = 3 ∨ upd (G 10) (N 0) 0 s = 4 then 1 else 0) ∧ (upd (G 10) (N 0) 0 s = 4 → ∀ k, k < N 1 → Q 1 k = s → zH (G 16) k + 2 ≤ t) ∧ ((upd (G 10) (N 0) 0 s = 1 ∨ upd (G 10) (N 0) 0 s = 3) → ∀ k, k < N 1 → Q 1 k = s → zH (G 16) k ≤ (upd (G 11) (N 0) (-1) s).toNatClampNeg)
              by_cases w : s = N 0
              · have no : ∀ k, k < N 1 → ¬ Q 1 k = s := fun k hk y => by have := (hM.2.2.2.1 k hk).1; omega
                rw [w, up_s, if_pos rfl, if_neg (by decide)]
                rw [w] at no
                exact ⟨zC_0.mpr fun k hk => decide_eq_false fun y => no k hk y.1, zC_0.mpr fun k hk => decide_eq_false fun y => no k hk y.1, fun y => absurd y (by decide), fun y => by rcases y with y | y <;> exact absurd y (by decide)⟩
              · rw [up_n w, up_n w]; exact hO s (by omega)
            · have hm' : m < N 1 := hm
              obtain ⟨e, l⟩ := zHo_at hM.2.1 (by omega) hm'
              have lt : ∀ k, k ≤ m → Q 1 k < N 0 := fun k hk => (hM.2.2.2.1 k (by omega)).1
              exact zSd_congr (F := F) (G := G) (N := N) (Q := Q) (h := zH (G 16) m) (by omega) e rfl (fun j _ => rfl) rfl (keep (G 7) b _ (lt m (Nat.le_refl _))).symm (fun k hk => (keep (G 9) d _ (lt k hk)).symm) (fun k _ => rfl) (fun k _ => rfl) (fun k _ => rfl) (fun k _ => rfl) (fun k _ => rfl) (hS m hm')
            · refine ⟨fun i hi => ?_, fun s hs ho => ?_, fun i j hij hj => ?_⟩
              · obtain ⟨x1, x2⟩ := hQ.1 i hi
                exact ⟨Nat.lt_succ_of_lt x1, by show ¬ upd (G 12) (N 0) (-1) (Q 0 i) = -1; rw [keep _ _ _ x1]; exact x2⟩
              · have hs' : s < N 0 + 1 := hs
                have ho' : ¬ upd (G 12) (N 0) (-1) s = -1 := ho
                by_cases w : s = N 0
                · rw [w, up_s] at ho'; exact absurd rfl ho'
                · rw [up_n w] at ho'; exact hQ.2.1 s (by omega) ho'
              · have b1 := (hQ.1 i (by have : j < N 2 := hj; omega)).1
                have b2 := (hQ.1 j hj).1
                show zAh (upd (G 8) (N 0) c) (upd (G 12) (N 0) (-1)) (Q 0 i) (Q 0 j)
                exact (zAh_congr (keep _ _ _ b1).symm (keep _ _ _ b2).symm (keep _ _ _ b1).symm (keep _ _ _ b2).symm).mp (hQ.2.2 i j hij hj)
            · obtain ⟨i1, i2, i3, i4, i5, i6⟩ := hRI
              refine ⟨i1, ⟨N 0 + 1, by omega, rfl⟩, i3, fun j hj => ?_, i5, i6⟩
              show vp_in (upd (g 9) (N 0) d j) 6
              by_cases w : j = N 0
              · rw [w, up_s]; exact p
              · rw [up_n w]; exact i4 j hj
          · have z3 : ¬ nI (N 0) < (30 : Int32) := fun y => z (l30.mp y)
            have z7 : nI (N 0) = (30 : Int32) := e30.mpr (by omega)
            rw [if_neg z3, if_neg z3, if_neg z3, if_pos z7, if_pos z7]
            simp only [z_huid]
            exact ⟨Or.inr (List.mem_cons_of_mem _ (List.mem_cons_of_mem _ (List.mem_cons_self ..))), zI_f h0 3⟩
        · rw [q3, if_neg (show ¬ (2 : Nat) = 0 by decide), if_neg (show ¬ (2 : Nat) = 0 by decide), if_neg (show ¬ (2 : Nat) = 0 by decide), if_pos r3, if_pos r3]
          simp only [z_huid]
          exact ⟨Or.inr (List.mem_cons_of_mem _ (List.mem_cons_self ..)), zI_f h0 2⟩
      · rw [q2, if_neg (show ¬ (2 : Nat) = 0 by decide), if_neg (show ¬ (2 : Nat) = 0 by decide), if_neg (show ¬ (2 : Nat) = 0 by decide), if_pos r2, if_pos r2]
        simp only [z_huid]
        exact ⟨Or.inr (List.mem_cons_of_mem _ (List.mem_cons_self ..)), zI_f h0 2⟩
    · rw [q1, if_neg (show ¬ (2 : Nat) = 0 by decide), if_neg (show ¬ (2 : Nat) = 0 by decide), if_neg (show ¬ (2 : Nat) = 0 by decide), if_pos r1, if_pos r1]
      simp only [z_huid]
      exact ⟨Or.inr (List.mem_cons_of_mem _ (List.mem_cons_self ..)), zI_f h0 2⟩
  · rw [q, if_neg (show ¬ (1 : Nat) = 0 by decide), if_neg (show ¬ (1 : Nat) = 0 by decide), if_neg (show ¬ (1 : Nat) = 0 by decide)]
    simp only [if_pos r, ite_self]
    simp only [z_huid]
    exact ⟨Or.inr (List.mem_cons_self ..), zI_f h0 1⟩
theorem zf_pass {F : Nat → Int32} {G : Nat → Nat → Int32} {N : Nat → Nat} {Q : Nat → Nat → Nat} {f : Nat → Int32} {g : Nat → Nat → Int32} (a : Int32) (h : zI F G N Q f g) : zXl [(2, 1), (3, 2)] (eX6_pass F G N Q a) ((sX7_pass f g a).1 0) (vX6_pass F G N Q a = vX7_pass f g a) ∧ zI (hu (hu (hu F 0 (sX6_pass F G N Q a).2.2.1) 1 (sX6_pass F G N Q a).2.2.2.1) 2 (sX6_pass F G N Q a).2.2.2.2.1) (hu (hu (hu (hu (hu (hu (hu (hu (hu (hu (hu (hu G 3 (sX6_pass F G N Q a).2.2.2.2.2.1) 4 (sX6_pass F G N Q a).2.2.2.2.2.2.1) 10 (sX6_pass F G N Q a).2.2.2.2.2.2.2.1) 11 (sX6_pass F G N Q a).2.2.2.2.2.2.2.2.1) 12 (sX6_pass F G N Q a).2.2.2.2.2.2.2.2.2.1) 13 (sX6_pass F G N Q a).2.2.2.2.2.2.2.2.2.2.1) 14 (sX6_pass F G N Q a).2.2.2.2.2.2.2.2.2.2.2.1) 15 (sX6_pass F G N Q a).2.2.2.2.2.2.2.2.2.2.2.2.1) 16 (sX6_pass F G N Q a).2.2.2.2.2.2.2.2.2.2.2.2.2.1) 17 (sX6_pass F G N Q a).2.2.2.2.2.2.2.2.2.2.2.2.2.2.1) 18 (sX6_pass F G N Q a).2.2.2.2.2.2.2.2.2.2.2.2.2.2.2.1) 19 (sX6_pass F G N Q a).2.2.2.2.2.2.2.2.2.2.2.2.2.2.2.2.1) (hu (hu N 1 (sX6_pass F G N Q a).1) 2 (sX6_pass F G N Q a).2.2.2.2.2.2.2.2.2.2.2.2.2.2.2.2.2.1) (hu (hu Q 1 (sX6_pass F G N Q a).2.1) 0 (sX6_pass F G N Q a).2.2.2.2.2.2.2.2.2.2.2.2.2.2.2.2.2.2) (sX7_pass f g a).1 (sX7_pass f g a).2 := by
  have h0 := h
  obtain ⟨t, ⟨⟨ht, eF, f1, f18, f19, f5, f20⟩, hW, hP, hK, hE, hSt, hZ, hM, hO⟩, hS, hQ, hRI⟩ := h
  rw [eX6_pass, sX7_pass, vX6_pass, vX7_pass, sX6_pass]
  rw [f1, f20]
  rcases z_rg a 1 100 with ⟨p, q, r⟩ | ⟨p, q, r⟩
  · rw [if_pos q, if_pos q, if_pos q, if_neg r, if_neg r]
    obtain ⟨n, hn, en⟩ : ∃ x, x ≤ 100 ∧ a = nI x := by
      have e1 : (1 : Int32).toInt = 1 := by decide
      have e2 : (100 : Int32).toInt = 100 := by decide
      obtain ⟨x, hx, ex⟩ := vp_in_of (x := a) (n := 101) (vp_in_iff.mpr (by rw [e1, e2] at p; omega)) (by decide)
      exact ⟨x, by omega, ex⟩
    have l3 : nI t + a ≤ (3000 : Int32) ↔ t + n ≤ 3000 := by
      rw [en, nI_add]; exact nI_leI (b := 3000) (by omega) (by omega)
    have l3' : F 0 + a ≤ (3000 : Int32) ↔ t + n ≤ 3000 := by rw [eF]; exact l3
    by_cases c : t + n ≤ 3000
    · have c1 := l3.mpr c
      have c2 := l3'.mpr c
      have ec : a.toNatClampNeg = n := by rw [en, nI_clamp (by omega)]
      rw [if_pos c2, if_pos c2, if_pos c2, if_pos c1, if_pos c1, ec]
      have key := z_nfR (f := bX6_pass_39 F G N Q a) (g := bX7_pass_47 f g a) (a := (F 0, F 1, F 2, G 3, G 4, G 10, G 11, G 12, G 13, G 14, G 15, G 16, G 17, G 18, G 19, N 1, N 2, Q 0, Q 1)) (b := (hu f 0 (0 : Int32), g)) (zHI t F G N Q) n ⟨⟨⟨ht, eF, f1, f18, f19, f5, f20⟩, hW, hP, hK, hE, hSt, hZ, hM, hO⟩, by
          obtain ⟨t', g1, g2, g3, g4⟩ := h0
          exact z_sdr2 (i := 0) g1 g2 rfl rfl rfl rfl rfl rfl rfl rfl rfl rfl rfl, hQ⟩ (fun j hj v u hv => z_hour (j := 0) (by omega) v u hv)
      have ps := pass_inv (hu f 0 (0 : Int32)) g a (n := t) (u := n) f1 c (hu f 0 (0 : Int32), g) ⟨hRI, by show f 1 = f 1 + nI 0; rw [show nI 0 = (0 : Int32) from rfl, Int32.add_zero], rfl⟩ n (Nat.le_refl _)
      have e47 : bX7_pass_47 (hu f 0 (0 : Int32)) g a = bX7_pass_47 f g a := rfl
      rw [e47] at ps
      have hz0 := z_pass0 f g a (hu f 0 (0 : Int32), g) n
      generalize nf (bX7_pass_47 f g a) (hu f 0 (0 : Int32), g) n = u at key ps hz0 ⊢
      generalize nf (bX6_pass_39 F G N Q a) (F 0, F 1, F 2, G 3, G 4, G 10, G 11, G 12, G 13, G 14, G 15, G 16, G 17, G 18, G 19, N 1, N 2, Q 0, Q 1) n = v at key ⊢
      obtain ⟨r1, r2, r3⟩ := key
      · refine ⟨Or.inl ⟨rfl, hz0, ?_⟩, t + n, r1, z_sdr2 (i := 0) r1 r2 rfl rfl rfl rfl rfl rfl rfl rfl rfl rfl rfl, r3, ps.1⟩
        have e20 : u.1 20 = nI (v.2.2.2.2.2.2.2.2.2.2.2.2.2.2.2.1) := r1.1.2.2.2.2.2.2
        rw [e20]
    · have c1 : ¬ nI t + a ≤ (3000 : Int32) := fun y => c (l3.mp y)
      have c2 : ¬ F 0 + a ≤ (3000 : Int32) := fun y => c (l3'.mp y)
      rw [if_neg c2, if_neg c2, if_neg c2, if_neg c1, if_neg c1]
      simp only [z_huid]
      exact ⟨Or.inr (List.mem_cons_of_mem _ (List.mem_cons_self ..)), zI_f h0 2⟩
  · rw [q, if_neg (show ¬ (2 : Nat) = 0 by decide), if_neg (show ¬ (2 : Nat) = 0 by decide), if_neg (show ¬ (2 : Nat) = 0 by decide), if_pos r, if_pos r]
    simp only [z_huid]
    exact ⟨Or.inr (List.mem_cons_self ..), zI_f h0 1⟩
def G0X6 : Nat → Nat → Int32 := hu (hu (hu (fun _ _ => (0 : Int32)) 0 (fillI 12 50)) 2 (fillI 6 60)) 3 rotaI
theorem zI_init : zI (fun _ => 0) G0X6 (fun _ => 0) (fun _ _ => 0) (fun _ => 0) G0X7 := by
  have a0 : ∀ j, j < 12 → fillI 12 50 j = G0X7 2 j := by decide +kernel
  have a2 : ∀ j, j < 6 → fillI 6 60 j = G0X7 4 j := by decide +kernel
  have a3 : ∀ j, j < 6 → rotaI j = G0X7 16 j := by decide +kernel
  have r3 : ∀ j, j < 6 → rotaI j = nI j := by decide +kernel
  have v3 : ∀ j, j < 6 → vp_in (rotaI j) 6 := fun j hj => by rw [r3 j hj]; exact vp_in_nI hj (by decide)
  refine ⟨0, ⟨⟨by decide, rfl, rfl, rfl, rfl, rfl, rfl⟩, ⟨a0, fun j _ => rfl, a2⟩, ⟨a3, fun j _ => rfl, v3, fun i j hi hj e => ?_, fun p hp => ⟨p, hp, r3 p hp⟩⟩, ⟨by decide, fun j hj => absurd hj (Nat.not_lt_zero _), fun j hj => absurd hj (Nat.not_lt_zero _), fun j hj => absurd hj (Nat.not_lt_zero _), fun j hj => absurd hj (Nat.not_lt_zero _), fun j hj => absurd hj (Nat.not_lt_zero _)⟩, ⟨fun j hj => absurd hj (Nat.not_lt_zero _), fun j hj => absurd hj (Nat.not_lt_zero _), fun j hj => absurd hj (Nat.not_lt_zero _), fun j hj => absurd hj (Nat.not_lt_zero _), fun j hj => absurd hj (Nat.not_lt_zero _)⟩, fun j hj => absurd hj (Nat.not_lt_zero _), fun j _ _ => ⟨rfl, rfl, rfl, rfl⟩, ⟨by decide, ⟨fun j hj => absurd hj (Nat.not_lt_zero _), fun i j _ hj => absurd hj (Nat.not_lt_zero _)⟩, fun j hj => absurd hj (Nat.not_lt_zero _), fun j hj => absurd hj (Nat.not_lt_zero _), fun j hj => absurd hj (Nat.not_lt_zero _), fun j hj => absurd hj (Nat.not_lt_zero _), fun j hj => absurd hj (Nat.not_lt_zero _), fun j hj => absurd hj (Nat.not_lt_zero _)⟩, fun j hj => absurd hj (Nat.not_lt_zero _)⟩, fun m hm => absurd hm (Nat.not_lt_zero _), ⟨fun j hj => absurd hj (Nat.not_lt_zero _), fun j hj => absurd hj (Nat.not_lt_zero _), fun i j _ hj => absurd hj (Nat.not_lt_zero _)⟩, ⟨0, by decide, rfl⟩, ⟨0, by decide, rfl⟩, ⟨0, by decide, rfl⟩, fun j _ => (show vp_in (0 : Int32) 6 from vp_lit (by decide)), fun j _ => (show vp_in (0 : Int32) 30 from vp_lit (by decide)), fun j hj => by rw [← a3 j hj]; exact v3 j hj⟩
  have e' : rotaI i = rotaI j := e
  rw [r3 i hi, r3 j hj] at e'
  exact (nI_eq (by omega) (by omega)).mp e'
end
