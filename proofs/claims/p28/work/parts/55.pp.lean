section
def zI (F : Nat → Int32) (G : Nat → Nat → Int32) (N : Nat → Nat) (Q : Nat → Nat → Nat) (f : Nat → Int32) (g : Nat → Nat → Int32) : Prop := ∃ t, zR t F G N Q f g ∧ zSA F G N Q ∧ zQ (N 0) (N 2) (G 8) (G 12) (Q 0) ∧ RI f g
def zXl (l : List (Nat × Int32)) (e : Nat) (c : Int32) (P : Prop) : Prop := (e = 0 ∧ c = 0 ∧ P) ∨ (e, c) ∈ l
theorem z_huid {α : Type} {G : Nat → α} {k : Nat} : hu G k (G k) = G := by
  funext j
  unfold hu
  cases e : Nat.beq j k with
  | true => rw [Nat.eq_of_beq_eq_true e]
  | false => rfl
theorem z_pl {n : Nat} (a : Int32) {m k : Int32} (hm : m.toInt = (n : Int) - 1) (hk : k.toInt = n) : (vp_in a n ∧ eX6_checkPlace a k = 0 ∧ ¬ vX7_isIn a 0 m = 0) ∨ (¬ vp_in a n ∧ eX6_checkPlace a k = 1 ∧ vX7_isIn a 0 m = 0) := by
  rw [vp_in_iff, eX6_checkPlace, vX7_isIn]
  have z : (0 : Int32).toInt = 0 := rfl
  by_cases c : a < 0
  · rw [if_pos c, if_pos c]
    rw [Int32.lt_iff_toInt_lt, z] at c
    exact Or.inr ⟨fun q => by omega, rfl, rfl⟩
  · rw [if_neg c, if_neg c]
    rw [Int32.lt_iff_toInt_lt, z] at c
    by_cases d : a < k
    · rw [if_pos d, if_neg (fun y => by rw [Int32.lt_iff_toInt_lt] at d y; omega)]
      rw [Int32.lt_iff_toInt_lt] at d
      exact Or.inl ⟨⟨by omega, by omega⟩, rfl, by decide⟩
    · rw [if_neg d, if_pos (by rw [Int32.lt_iff_toInt_lt] at d ⊢; omega)]
      rw [Int32.lt_iff_toInt_lt] at d
      exact Or.inr ⟨fun q => by omega, rfl, rfl⟩
theorem z_rg (a lo hi : Int32) : ((lo.toInt ≤ a.toInt ∧ a.toInt ≤ hi.toInt) ∧ eX6_checkRange a lo hi = 0 ∧ ¬ vX7_isIn a lo hi = 0) ∨ (¬ (lo.toInt ≤ a.toInt ∧ a.toInt ≤ hi.toInt) ∧ eX6_checkRange a lo hi = 2 ∧ vX7_isIn a lo hi = 0) := by
  rw [eX6_checkRange, vX7_isIn]
  by_cases c : a < lo
  · rw [if_pos c, if_pos c]
    rw [Int32.lt_iff_toInt_lt] at c
    exact Or.inr ⟨fun q => by omega, rfl, rfl⟩
  · rw [if_neg c, if_neg c]
    by_cases d : a ≤ hi
    · rw [if_pos d, if_neg (fun y => by rw [Int32.lt_iff_toInt_lt] at y; rw [Int32.le_iff_toInt_le] at d; omega)]
      rw [Int32.lt_iff_toInt_lt] at c
      rw [Int32.le_iff_toInt_le] at d
      exact Or.inl ⟨⟨by omega, d⟩, rfl, by decide⟩
    · rw [if_neg d, if_pos (by rw [Int32.lt_iff_toInt_lt]; rw [Int32.le_iff_toInt_le] at d; omega)]
      rw [Int32.le_iff_toInt_le] at d
      exact Or.inr ⟨fun q => by omega, rfl, rfl⟩
theorem z_nm1 {n : Nat} (hn : n ≤ 100) : (nI n - (1 : Int32)).toInt = (n : Int) - 1 := pk_sub_toInt (a := n) (b := 1) (by omega) (by omega)
theorem z_sh {F : Nat → Int32} {G : Nat → Nat → Int32} {N : Nat → Nat} {Q : Nat → Nat → Nat} {f : Nat → Int32} {g : Nat → Nat → Int32} (h5 : f 5 = nI (N 0)) (hn : N 0 ≤ 30) (a : Int32) : (vp_in a (N 0) ∧ eX6_shipAt F G N Q a = 0 ∧ ¬ vX7_isShip f g a = 0) ∨ (¬ vp_in a (N 0) ∧ eX6_shipAt F G N Q a = 1 ∧ vX7_isShip f g a = 0) := by
  rw [eX6_shipAt, vX7_isShip, h5]
  rcases z_pl (n := N 0) a (m := nI (N 0) - 1) (k := nI (N 0)) (z_nm1 (by omega)) (nI_toInt (by omega)) with ⟨p, q, r⟩ | ⟨p, q, r⟩
  · exact Or.inl ⟨p, by rw [if_pos q], r⟩
  · exact Or.inr ⟨p, by rw [q]; rfl, r⟩
theorem z_mv {F : Nat → Int32} {G : Nat → Nat → Int32} {N : Nat → Nat} {Q : Nat → Nat → Nat} {f : Nat → Int32} {g : Nat → Nat → Int32} (h20 : f 20 = nI (N 1)) (hn : N 1 ≤ 100) (a : Int32) : (vp_in a (N 1) ∧ eX6_checkPlace a (nI (N 1)) = 0 ∧ ¬ vX7_isMove f g a = 0) ∨ (¬ vp_in a (N 1) ∧ eX6_checkPlace a (nI (N 1)) = 1 ∧ vX7_isMove f g a = 0) := by
  rw [vX7_isMove, h20]
  exact z_pl (n := N 1) a (m := nI (N 1) - 1) (k := nI (N 1)) (z_nm1 hn) (nI_toInt (by omega))
theorem z_pi (a : Int32) : (vp_in a 6 ∧ eX6_checkPlace a (6 : Int32) = 0 ∧ ¬ vX7_isPilot a = 0) ∨ (¬ vp_in a 6 ∧ eX6_checkPlace a (6 : Int32) = 1 ∧ vX7_isPilot a = 0) := by
  rw [vX7_isPilot]
  exact z_pl (n := 6) a (by decide) (by decide)
theorem zI_f {F : Nat → Int32} {G : Nat → Nat → Int32} {N : Nat → Nat} {Q : Nat → Nat → Nat} {f : Nat → Int32} {g : Nat → Nat → Int32} (h : zI F G N Q f g) (c : Int32) : zI F G N Q (hu f 0 c) g := by
  obtain ⟨t, h1, h2, h3, h4⟩ := h
  exact ⟨t, h1, h2, h3, h4⟩
theorem zf_state {F : Nat → Int32} {G : Nat → Nat → Int32} {N : Nat → Nat} {Q : Nat → Nat → Nat} {f : Nat → Int32} {g : Nat → Nat → Int32} (a : Int32) (h : zI F G N Q f g) : zXl [(1, 1)] (eX6_state F G N Q a) ((sX7_state f g a).1 0) (vX6_state F G N Q a = vX7_state f g a) ∧ zI F G N Q (sX7_state f g a).1 (sX7_state f g a).2 := by
  have h0 := h
  obtain ⟨t, ⟨⟨ht, eF, f1, f18, f19, f5, f20⟩, hW, hP, hK, hE, hSt, hZ, hM, hO⟩, hS, hQ, hRI⟩ := h
  rw [eX6_state, sX7_state, vX6_state, vX7_state]
  rcases z_sh (F := F) (G := G) (Q := Q) (g := g) f5 hK.1 a with ⟨p, q, r⟩ | ⟨p, q, r⟩
  · rw [if_pos q, if_pos q, if_neg r, if_neg r]
    exact ⟨Or.inl ⟨rfl, rfl, hE.1 _ (vp_cl p)⟩, zI_f h0 0⟩
  · rw [q, if_neg (show ¬ (1 : Nat) = 0 by decide), if_neg (show ¬ (1 : Nat) = 0 by decide), if_pos r, if_pos r]
    exact ⟨Or.inr (List.mem_cons_self ..), zI_f h0 1⟩
theorem zf_paid {F : Nat → Int32} {G : Nat → Nat → Int32} {N : Nat → Nat} {Q : Nat → Nat → Nat} {f : Nat → Int32} {g : Nat → Nat → Int32} (a : Int32) (h : zI F G N Q f g) : zXl [(1, 1)] (eX6_paid F G N Q a) ((sX7_paid f g a).1 0) (vX6_paid F G N Q a = vX7_paid f g a) ∧ zI F G N Q (sX7_paid f g a).1 (sX7_paid f g a).2 := by
  have h0 := h
  obtain ⟨t, ⟨⟨ht, eF, f1, f18, f19, f5, f20⟩, hW, hP, hK, hE, hSt, hZ, hM, hO⟩, hS, hQ, hRI⟩ := h
  rw [eX6_paid, sX7_paid, vX6_paid, vX7_paid]
  rcases z_sh (F := F) (G := G) (Q := Q) (g := g) f5 hK.1 a with ⟨p, q, r⟩ | ⟨p, q, r⟩
  · rw [if_pos q, if_pos q, if_neg r, if_neg r]
    exact ⟨Or.inl ⟨rfl, rfl, hE.2.2.1 _ (vp_cl p)⟩, zI_f h0 0⟩
  · rw [q, if_neg (show ¬ (1 : Nat) = 0 by decide), if_neg (show ¬ (1 : Nat) = 0 by decide), if_pos r, if_pos r]
    exact ⟨Or.inr (List.mem_cons_self ..), zI_f h0 1⟩
theorem zf_lost {F : Nat → Int32} {G : Nat → Nat → Int32} {N : Nat → Nat} {Q : Nat → Nat → Nat} {f : Nat → Int32} {g : Nat → Nat → Int32} (a : Int32) (h : zI F G N Q f g) : zXl [(1, 1)] (eX6_lost F G N Q a) ((sX7_lost f g a).1 0) (vX6_lost F G N Q a = vX7_lost f g a) ∧ zI F G N Q (sX7_lost f g a).1 (sX7_lost f g a).2 := by
  have h0 := h
  obtain ⟨t, ⟨⟨ht, eF, f1, f18, f19, f5, f20⟩, hW, hP, hK, hE, hSt, hZ, hM, hO⟩, hS, hQ, hRI⟩ := h
  rw [eX6_lost, sX7_lost, vX6_lost, vX7_lost]
  rcases z_sh (F := F) (G := G) (Q := Q) (g := g) f5 hK.1 a with ⟨p, q, r⟩ | ⟨p, q, r⟩
  · rw [if_pos q, if_pos q, if_neg r, if_neg r]
    exact ⟨Or.inl ⟨rfl, rfl, hE.2.2.2.1 _ (vp_cl p)⟩, zI_f h0 0⟩
  · rw [q, if_neg (show ¬ (1 : Nat) = 0 by decide), if_neg (show ¬ (1 : Nat) = 0 by decide), if_pos r, if_pos r]
    exact ⟨Or.inr (List.mem_cons_self ..), zI_f h0 1⟩
theorem zf_claims {F : Nat → Int32} {G : Nat → Nat → Int32} {N : Nat → Nat} {Q : Nat → Nat → Nat} {f : Nat → Int32} {g : Nat → Nat → Int32} (a : Int32) (h : zI F G N Q f g) : zXl [(1, 1)] (eX6_claims F G N Q a) ((sX7_claims f g a).1 0) (vX6_claims F G N Q a = vX7_claims f g a) ∧ zI F G N Q (sX7_claims f g a).1 (sX7_claims f g a).2 := by
  have h0 := h
  obtain ⟨t, ⟨⟨ht, eF, f1, f18, f19, f5, f20⟩, hW, hP, hK, hE, hSt, hZ, hM, hO⟩, hS, hQ, hRI⟩ := h
  rw [eX6_claims, sX7_claims, vX6_claims, vX7_claims]
  rcases z_sh (F := F) (G := G) (Q := Q) (g := g) f5 hK.1 a with ⟨p, q, r⟩ | ⟨p, q, r⟩
  · rw [if_pos q, if_pos q, if_neg r, if_neg r]
    exact ⟨Or.inl ⟨rfl, rfl, hE.2.2.2.2 _ (vp_cl p)⟩, zI_f h0 0⟩
  · rw [q, if_neg (show ¬ (1 : Nat) = 0 by decide), if_neg (show ¬ (1 : Nat) = 0 by decide), if_pos r, if_pos r]
    exact ⟨Or.inr (List.mem_cons_self ..), zI_f h0 1⟩
theorem zf_rota {F : Nat → Int32} {G : Nat → Nat → Int32} {N : Nat → Nat} {Q : Nat → Nat → Nat} {f : Nat → Int32} {g : Nat → Nat → Int32} (a : Int32) (h : zI F G N Q f g) : zXl [(1, 1)] (eX6_rota F G N Q a) ((sX7_rota f g a).1 0) (vX6_rota F G N Q a = vX7_rota f g a) ∧ zI F G N Q (sX7_rota f g a).1 (sX7_rota f g a).2 := by
  have h0 := h
  obtain ⟨t, ⟨⟨ht, eF, f1, f18, f19, f5, f20⟩, hW, hP, hK, hE, hSt, hZ, hM, hO⟩, hS, hQ, hRI⟩ := h
  rw [eX6_rota, sX7_rota, vX6_rota, vX7_rota]
  rcases z_pi a with ⟨p, q, r⟩ | ⟨p, q, r⟩
  · rw [if_pos q, if_pos q, if_neg r, if_neg r]
    exact ⟨Or.inl ⟨rfl, rfl, hP.1 _ (vp_cl p)⟩, zI_f h0 0⟩
  · rw [q, if_neg (show ¬ (1 : Nat) = 0 by decide), if_neg (show ¬ (1 : Nat) = 0 by decide), if_pos r, if_pos r]
    exact ⟨Or.inr (List.mem_cons_self ..), zI_f h0 1⟩
theorem zf_earned {F : Nat → Int32} {G : Nat → Nat → Int32} {N : Nat → Nat} {Q : Nat → Nat → Nat} {f : Nat → Int32} {g : Nat → Nat → Int32} (a : Int32) (h : zI F G N Q f g) : zXl [(1, 1)] (eX6_earned F G N Q a) ((sX7_earned f g a).1 0) (vX6_earned F G N Q a = vX7_earned f g a) ∧ zI F G N Q (sX7_earned f g a).1 (sX7_earned f g a).2 := by
  have h0 := h
  obtain ⟨t, ⟨⟨ht, eF, f1, f18, f19, f5, f20⟩, hW, hP, hK, hE, hSt, hZ, hM, hO⟩, hS, hQ, hRI⟩ := h
  rw [eX6_earned, sX7_earned, vX6_earned, vX7_earned]
  rcases z_pi a with ⟨p, q, r⟩ | ⟨p, q, r⟩
  · rw [if_pos q, if_pos q, if_neg r, if_neg r]
    exact ⟨Or.inl ⟨rfl, rfl, hP.2.1 _ (vp_cl p)⟩, zI_f h0 0⟩
  · rw [q, if_neg (show ¬ (1 : Nat) = 0 by decide), if_neg (show ¬ (1 : Nat) = 0 by decide), if_pos r, if_pos r]
    exact ⟨Or.inr (List.mem_cons_self ..), zI_f h0 1⟩
theorem zf_isReady {F : Nat → Int32} {G : Nat → Nat → Int32} {N : Nat → Nat} {Q : Nat → Nat → Nat} {f : Nat → Int32} {g : Nat → Nat → Int32} (a : Int32) (h : zI F G N Q f g) : zXl [(1, 1)] (eX6_isReady F G N Q a) ((sX7_isReady f g a).1 0) (vX6_isReady F G N Q a = vX7_isReady f g a) ∧ zI F G N Q (sX7_isReady f g a).1 (sX7_isReady f g a).2 := by
  have h0 := h
  obtain ⟨t, ⟨⟨ht, eF, f1, f18, f19, f5, f20⟩, hW, hP, hK, hE, hSt, hZ, hM, hO⟩, hS, hQ, hRI⟩ := h
  rw [eX6_isReady, sX7_isReady, vX6_isReady, vX7_isReady]
  rcases z_pi a with ⟨p, q, r⟩ | ⟨p, q, r⟩
  · rw [if_pos q, if_pos q, if_neg r, if_neg r]
    have e6 : vX0_pilotIsReady F G N Q a (F 0) (N 1) = zPR (G 16) (G 18) a t (N 1) := by rw [eF]; exact z_pr0 a (by omega) hM.1 hM.2.1
    have e7 : vX7_isPilotReady (hu f 0 (0 : Int32)) g a = zPR (G 16) (G 18) a t (N 1) := by
      rw [z_pr7 (f := hu f 0 (0 : Int32)) a (show t ≤ 3001 by omega) hM.1 f1 f20 (zHo_congr hM.2.2.2.2.1 hM.2.1)]
      exact (zPR_congr hM.2.2.2.2.1 hM.2.2.2.2.2.2.1).symm
    rw [e6, e7]
    have z1 : zPR (G 16) (G 18) a t (N 1) = 0 ∨ zPR (G 16) (G 18) a t (N 1) = 1 := by
      rw [zPR]
      split
      · split
        · exact Or.inl rfl
        · exact Or.inr rfl
      · exact Or.inl rfl
    rcases z1 with z | z
    · rw [z, if_pos rfl, if_pos rfl]
      exact ⟨Or.inl ⟨rfl, rfl, rfl⟩, zI_f h0 0⟩
    · rw [z, if_neg (by decide), if_neg (by decide)]
      exact ⟨Or.inl ⟨rfl, rfl, rfl⟩, zI_f h0 0⟩
  · rw [q, if_neg (show ¬ (1 : Nat) = 0 by decide), if_neg (show ¬ (1 : Nat) = 0 by decide), if_pos r, if_pos r]
    exact ⟨Or.inr (List.mem_cons_self ..), zI_f h0 1⟩
theorem zf_tugs {F : Nat → Int32} {G : Nat → Nat → Int32} {N : Nat → Nat} {Q : Nat → Nat → Nat} {f : Nat → Int32} {g : Nat → Nat → Int32}  (h : zI F G N Q f g) : zXl [] (eX6_tugs F G N Q) ((sX7_tugs f g).1 0) (vX6_tugs F G N Q = vX7_tugs f g) ∧ zI F G N Q (sX7_tugs f g).1 (sX7_tugs f g).2 := by
  have h0 := h
  obtain ⟨t, ⟨⟨ht, eF, f1, f18, f19, f5, f20⟩, hW, hP, hK, hE, hSt, hZ, hM, hO⟩, hS, hQ, hRI⟩ := h
  obtain ⟨w, hw, w6, w7⟩ := z_tgE (F := F) (N := N) (Q := Q) (f := hu f 0 (0 : Int32)) (g := g) (show t ≤ 3001 by omega) hM.1 hM.2.1 hM.2.2.1 f1 f20 hM.2.2.2.2.1 hM.2.2.2.2.2.2.2
  rw [vX6_tugs, vX7_tugs, eF, w6, w7]
  exact ⟨Or.inl ⟨rfl, rfl, rfl⟩, zI_f h0 0⟩
theorem zf_moves {F : Nat → Int32} {G : Nat → Nat → Int32} {N : Nat → Nat} {Q : Nat → Nat → Nat} {f : Nat → Int32} {g : Nat → Nat → Int32}  (h : zI F G N Q f g) : zXl [] (eX6_moves F G N Q) ((sX7_moves f g).1 0) (vX6_moves F G N Q = vX7_moves f g) ∧ zI F G N Q (sX7_moves f g).1 (sX7_moves f g).2 := by
  have h0 := h
  obtain ⟨t, ⟨⟨ht, eF, f1, f18, f19, f5, f20⟩, hW, hP, hK, hE, hSt, hZ, hM, hO⟩, hS, hQ, hRI⟩ := h
  exact ⟨Or.inl ⟨rfl, rfl, f20.symm⟩, zI_f h0 0⟩
theorem zf_tugPay {F : Nat → Int32} {G : Nat → Nat → Int32} {N : Nat → Nat} {Q : Nat → Nat → Nat} {f : Nat → Int32} {g : Nat → Nat → Int32}  (h : zI F G N Q f g) : zXl [] (eX6_tugPay F G N Q) ((sX7_tugPay f g).1 0) (vX6_tugPay F G N Q = vX7_tugPay f g) ∧ zI F G N Q (sX7_tugPay f g).1 (sX7_tugPay f g).2 := by
  have h0 := h
  obtain ⟨t, ⟨⟨ht, eF, f1, f18, f19, f5, f20⟩, hW, hP, hK, hE, hSt, hZ, hM, hO⟩, hS, hQ, hRI⟩ := h
  exact ⟨Or.inl ⟨rfl, rfl, f18.symm⟩, zI_f h0 0⟩
theorem zf_port {F : Nat → Int32} {G : Nat → Nat → Int32} {N : Nat → Nat} {Q : Nat → Nat → Nat} {f : Nat → Int32} {g : Nat → Nat → Int32}  (h : zI F G N Q f g) : zXl [] (eX6_port F G N Q) ((sX7_port f g).1 0) (vX6_port F G N Q = vX7_port f g) ∧ zI F G N Q (sX7_port f g).1 (sX7_port f g).2 := by
  have h0 := h
  obtain ⟨t, ⟨⟨ht, eF, f1, f18, f19, f5, f20⟩, hW, hP, hK, hE, hSt, hZ, hM, hO⟩, hS, hQ, hRI⟩ := h
  exact ⟨Or.inl ⟨rfl, rfl, f19.symm⟩, zI_f h0 0⟩
theorem zf_depth {F : Nat → Int32} {G : Nat → Nat → Int32} {N : Nat → Nat} {Q : Nat → Nat → Nat} {f : Nat → Int32} {g : Nat → Nat → Int32} (a : Int32) (h : zI F G N Q f g) : zXl [(2, 1)] (eX6_depth F G N Q a) ((sX7_depth f g a).1 0) (vX6_depth F G N Q a = vX7_depth f g a) ∧ zI F G N Q (sX7_depth f g a).1 (sX7_depth f g a).2 := by
  have h0 := h
  obtain ⟨t, ⟨⟨ht, eF, f1, f18, f19, f5, f20⟩, hW, hP, hK, hE, hSt, hZ, hM, hO⟩, hS, hQ, hRI⟩ := h
  rw [eX6_depth, sX7_depth, vX6_depth, vX7_depth]
  rcases z_rg a 0 3100 with ⟨p, q, r⟩ | ⟨p, q, r⟩
  · rw [if_pos q, if_pos q, if_neg r, if_neg r]
    have va : vp_in a 3101 := vp_in_iff.mpr (by
      have e1 : (0 : Int32).toInt = 0 := by decide
      have e2 : (3100 : Int32).toInt = 3100 := by decide
      rw [e1, e2] at p; omega)
    exact ⟨Or.inl ⟨rfl, rfl, z_depth hW va⟩, zI_f h0 0⟩
  · rw [q, if_neg (show ¬ (2 : Nat) = 0 by decide), if_neg (show ¬ (2 : Nat) = 0 by decide), if_pos r, if_pos r]
    exact ⟨Or.inr (List.mem_cons_self ..), zI_f h0 1⟩
theorem zf_queue {F : Nat → Int32} {G : Nat → Nat → Int32} {N : Nat → Nat} {Q : Nat → Nat → Nat} {f : Nat → Int32} {g : Nat → Nat → Int32} (a : Int32) (h : zI F G N Q f g) : zXl [(1, 1)] (eX6_queue F G N Q a) ((sX7_queue f g a).1 0) (vX6_queue F G N Q a = vX7_queue f g a) ∧ zI F G N Q (sX7_queue f g a).1 (sX7_queue f g a).2 := by
  have h0 := h
  obtain ⟨t, ⟨⟨ht, eF, f1, f18, f19, f5, f20⟩, hW, hP, hK, hE, hSt, hZ, hM, hO⟩, hS, hQ, hRI⟩ := h
  rw [eX6_queue, sX7_queue, vX6_queue, vX7_queue]
  have k0 := hK.1
  rcases z_sh (F := F) (G := G) (Q := Q) (g := g) f5 hK.1 a with ⟨p, q, r⟩ | ⟨p, q, r⟩
  · rw [if_pos q, if_pos q, if_neg r, if_neg r]
    obtain ⟨i, hi, ei⟩ := vp_in_of p (by omega)
    have ec : a.toNatClampNeg = i := by rw [ei, nI_clamp (by omega)]
    rw [ec]
    have hle := zQ_le hQ
    have e12 := hE.2.1 i hi
    by_cases c : g 11 i = -1
    · rw [if_pos c, if_pos c]
      refine ⟨Or.inl ⟨rfl, rfl, ?_⟩, zI_f h0 0⟩
      rcases pO_spec (F := F) (G := G) (N := N) (Q := Q) (i2 := i) (by omega) with ⟨x, _⟩ | ⟨_, x, y, _⟩
      · exact x
      · exact absurd (e12.trans c) (by rw [← y]; exact (hQ.1 _ x).2)
    · rw [if_neg c, if_neg c]
      refine ⟨Or.inl ⟨rfl, rfl, ?_⟩, zI_f h0 0⟩
      rcases pO_spec (F := F) (G := G) (N := N) (Q := Q) (i2 := i) (by omega) with ⟨x, y⟩ | ⟨x, y, z, _⟩
      · obtain ⟨k, hk, ek⟩ := hQ.2.1 i hi (fun z => c (e12.symm.trans z))
        exact absurd ek (y k hk)
      · rw [x, f5, nI_clamp (show N 0 < 2 ^ 31 by omega), ei]
        have hp : ∀ s, s < N 0 → (decide (¬ g 11 s = -1 ∧ ((g 8 i).toInt < (g 8 s).toInt ∨ ((g 8 s).toInt = (g 8 i).toInt ∧ ((g 11 s).toInt < (g 11 i).toInt ∨ ((g 11 s).toInt = (g 11 i).toInt ∧ s < i))))) = true ↔ ¬ g 11 s = -1 ∧ zAh (g 8) (g 11) s i) := fun s hs => by
          rw [decide_eq_true_iff, zAh]
        rw [z_qu7 (f := f) (g := g) (n := N 0) (i := i) hK.1 (by omega) hp]
        have cnt := zQ_pos hQ y (pr := fun s => decide (¬ g 11 s = -1 ∧ ((g 8 i).toInt < (g 8 s).toInt ∨ ((g 8 s).toInt = (g 8 i).toInt ∧ ((g 11 s).toInt < (g 11 i).toInt ∨ ((g 11 s).toInt = (g 11 i).toInt ∧ s < i)))))) (fun s hs => by
          rw [hp s hs, z, hE.2.1 s hs]
          exact and_congr_right fun _ => (zAh_congr (hK.2.2.2.2.1 s hs) (hK.2.2.2.2.1 i hi) (hE.2.1 s hs) (hE.2.1 i hi)).symm)
        rw [cnt]
  · rw [q, if_neg (show ¬ (1 : Nat) = 0 by decide), if_neg (show ¬ (1 : Nat) = 0 by decide), if_pos r, if_pos r]
    exact ⟨Or.inr (List.mem_cons_self ..), zI_f h0 1⟩
theorem zf_move {F : Nat → Int32} {G : Nat → Nat → Int32} {N : Nat → Nat} {Q : Nat → Nat → Nat} {f : Nat → Int32} {g : Nat → Nat → Int32} (a : Int32) (h : zI F G N Q f g) : zXl [(1, 1)] (eX6_move F G N Q a) ((sX7_move f g a).1 0) (vX6_move F G N Q a = vX7_move f g a) ∧ zI F G N Q (sX7_move f g a).1 (sX7_move f g a).2 := by
  have h0 := h
  obtain ⟨t, ⟨⟨ht, eF, f1, f18, f19, f5, f20⟩, hW, hP, hK, hE, hSt, hZ, hM, hO⟩, hS, hQ, hRI⟩ := h
  rw [eX6_move, sX7_move, vX6_move, vX7_move]
  have m1 := hM.1
  have k0 := hK.1
  rcases z_mv (F := F) (G := G) (Q := Q) (g := g) f20 hM.1 a with ⟨p, q, r⟩ | ⟨p, q, r⟩
  · rw [if_pos q, if_pos q, if_neg r, if_neg r]
    have hc := vp_cl p
    obtain ⟨x1, x2, x3, x4⟩ := hM.2.2.2.1 _ hc
    rw [hM.2.2.2.2.1 _ hc, hM.2.2.2.2.2.1 _ hc, hM.2.2.2.2.2.2.1 _ hc, (hK.2.1 _ x1).1, x2]
    by_cases c : g 25 a.toNatClampNeg = 0
    · rw [if_pos c, if_pos c, if_pos c]
      exact ⟨Or.inl ⟨rfl, rfl, rfl⟩, zI_f h0 0⟩
    · rw [if_neg c, if_neg c, if_neg c]
      exact ⟨Or.inl ⟨rfl, rfl, rfl⟩, zI_f h0 0⟩
  · rw [q, if_neg (show ¬ (1 : Nat) = 0 by decide), if_neg (show ¬ (1 : Nat) = 0 by decide), if_pos r, if_pos r]
    exact ⟨Or.inr (List.mem_cons_self ..), zI_f h0 1⟩
theorem zf_isSound {F : Nat → Int32} {G : Nat → Nat → Int32} {N : Nat → Nat} {Q : Nat → Nat → Nat} {f : Nat → Int32} {g : Nat → Nat → Int32} (a : Int32) (h : zI F G N Q f g) : zXl [(1, 1)] (eX6_isSound F G N Q a) ((sX7_isSound f g a).1 0) (vX6_isSound F G N Q a = vX7_isSound f g a) ∧ zI F G N Q (sX7_isSound f g a).1 (sX7_isSound f g a).2 := by
  have h0 := h
  obtain ⟨t, ⟨⟨ht, eF, f1, f18, f19, f5, f20⟩, hW, hP, hK, hE, hSt, hZ, hM, hO⟩, hS, hQ, hRI⟩ := h
  have m1 := hM.1
  rcases z_mv (F := F) (G := G) (Q := Q) (g := g) f20 hM.1 a with ⟨p, q, r⟩ | ⟨p, q, r⟩
  · obtain ⟨m, hm, em⟩ := vp_in_of p (by omega)
    obtain ⟨y1, y2⟩ := z_snd (F := F) (G := G) (N := N) (Q := Q) hM.1 hm (hS m hm)
    rw [← em] at y1 y2
    rw [y1, y2, sX7_isSound, vX7_isSound, if_neg r, if_neg r]
    exact ⟨Or.inl ⟨rfl, rfl, rfl⟩, zI_f h0 0⟩
  · rw [eX6_isSound, sX7_isSound, vX6_isSound, vX7_isSound, q, if_neg (show ¬ (1 : Nat) = 0 by decide), if_neg (show ¬ (1 : Nat) = 0 by decide), if_pos r, if_pos r]
    exact ⟨Or.inr (List.mem_cons_self ..), zI_f h0 1⟩
theorem zf_hasWater {F : Nat → Int32} {G : Nat → Nat → Int32} {N : Nat → Nat} {Q : Nat → Nat → Nat} {f : Nat → Int32} {g : Nat → Nat → Int32} (a : Int32) (b : Int32) (h : zI F G N Q f g) : zXl [(1, 1), (2, 2)] (eX6_hasWater F G N Q a b) ((sX7_hasWater f g a b).1 0) (vX6_hasWater F G N Q a b = vX7_hasWater f g a b) ∧ zI F G N Q (sX7_hasWater f g a b).1 (sX7_hasWater f g a b).2 := by
  have h0 := h
  obtain ⟨t, ⟨⟨ht, eF, f1, f18, f19, f5, f20⟩, hW, hP, hK, hE, hSt, hZ, hM, hO⟩, hS, hQ, hRI⟩ := h
  rw [eX6_hasWater, sX7_hasWater, vX6_hasWater, vX7_hasWater]
  have k0 := hK.1
  rcases z_sh (F := F) (G := G) (Q := Q) (g := g) f5 hK.1 a with ⟨p, q, r⟩ | ⟨p, q, r⟩
  · rw [if_pos q, if_pos q, if_neg r, if_neg r]
    rcases z_rg b 0 3000 with ⟨p2, q2, r2⟩ | ⟨p2, q2, r2⟩
    · rw [if_pos q2, if_pos q2, if_neg r2, if_neg r2]
      obtain ⟨i, hi, ei⟩ := vp_in_of p (by omega)
      have ec : a.toNatClampNeg = i := by rw [ei, nI_clamp (by omega)]
      obtain ⟨x, hx, ex⟩ : ∃ x, x ≤ 3000 ∧ b = nI x := by
        have e1 : (0 : Int32).toInt = 0 := by decide
        have e2 : (3000 : Int32).toInt = 3000 := by decide
        obtain ⟨x, hx, ex⟩ := vp_in_of (x := b) (n := 3001) (vp_in_iff.mpr (by rw [e1, e2] at p2; omega)) (by decide)
        exact ⟨x, by omega, ex⟩
      rw [ec, vX4_canMove]
      have cc := z_car (F := F) (G := G) (N := N) (Q := Q) (f := hu f 0 (0 : Int32)) (g := g) hW (i := i) (t := x) (by omega) hx (hK.2.2.2.1 i hi) (hK.2.2.2.2.2 i hi) (hE.1 i hi) (hK.2.1 i hi).2.2
      rw [← ex, ← ei] at cc
      have nul : (if vX7_floats (hu f 0 (0 : Int32)) g a b = 0 then (hu f 0 (0 : Int32), g) else (hu f 0 (0 : Int32), g)) = (hu f 0 (0 : Int32), g) := by split <;> rfl
      rw [nul]
      by_cases c0 : G 10 i = 0
      · have n2 : ¬ G 10 i = 2 := by rw [c0]; decide
        rw [if_pos c0, if_neg (show ¬ (1 : Int32) = 0 by decide), if_neg (show ¬ (1 : Int32) = 0 by decide), if_neg n2, if_neg n2, cc.1 c0]
        refine ⟨Or.inl ⟨?_, rfl, rfl⟩, zI_f h0 0⟩
        split <;> rfl
      · rw [if_neg c0]
        by_cases c2 : G 10 i = 2
        · rw [if_pos c2, if_neg (show ¬ (1 : Int32) = 0 by decide), if_neg (show ¬ (1 : Int32) = 0 by decide), if_pos c2, if_pos c2, cc.2 c2]
          refine ⟨Or.inl ⟨?_, rfl, rfl⟩, zI_f h0 0⟩
          split <;> rfl
        · rw [if_neg c2, if_pos (rfl : (0 : Int32) = 0), if_pos (rfl : (0 : Int32) = 0)]
          have z7 : vX7_floats (hu f 0 (0 : Int32)) g a b = 0 := by
            rw [ei]
            exact z_flo0 (by omega) (by rw [← hE.1 i hi]; exact c0) (by rw [← hE.1 i hi]; exact c2)
          rw [z7, if_pos rfl]
          exact ⟨Or.inl ⟨rfl, rfl, rfl⟩, zI_f h0 0⟩
    · rw [q2, if_neg (show ¬ (2 : Nat) = 0 by decide), if_neg (show ¬ (2 : Nat) = 0 by decide), if_pos r2, if_pos r2]
      exact ⟨Or.inr (List.mem_cons_of_mem _ (List.mem_cons_self ..)), zI_f h0 2⟩
  · rw [q, if_neg (show ¬ (1 : Nat) = 0 by decide), if_neg (show ¬ (1 : Nat) = 0 by decide), if_pos r, if_pos r]
    exact ⟨Or.inr (List.mem_cons_self ..), zI_f h0 1⟩
end
