/-! THE REFERENCE'S METHODS: models (v: the answer, s: the state) and contracts -/
def ct (x : Int32) (n : Nat) : Prop := ∃ k, k ≤ n ∧ x = nI k
theorem ct.cl {x : Int32} {n : Nat} (h : ct x n) (hn : n < 2 ^ 31) : x.toNatClampNeg ≤ n := by
  obtain ⟨k, h1, rfl⟩ := h
  rw [nI_clamp (by omega)]
  exact h1
theorem nb_of {v : Int32} (h : v = 0 ∨ v = 1) : narrow .boolean (.int v) = .int v := by rcases h with rfl | rfl <;> rfl
theorem vp_rem12 {x : Int32} {n : Nat} (h : vp_in x n) (hn : n < 2 ^ 31) : vp_in (x - x / (12 : Int32) * (12 : Int32)) 12 := by
  obtain ⟨j, h1, rfl⟩ := vp_in_of h hn
  have := pk_rem (a := j) (d := 12) (by omega) (by decide) (by decide)
  rw [show (12 : Int32) = nI 12 from rfl, this]
  exact vp_in_nI (Nat.mod_lt _ (by decide)) (by decide)
theorem vp_at {N : Nat} {P : Int32 → Prop} {g : Nat → Int32} {j : Nat} (h : ∀ j, j < N → P (g j)) (hj : j < N) (hN : N < 2 ^ 31) : P (g (nI j).toNatClampNeg) := by
  rw [nI_clamp (by omega)]
  exact h j hj
theorem vp_cl {x : Int32} {N : Nat} (h : vp_in x N) : x.toNatClampNeg < N := Nat.not_le.mp fun q => h (Or.inr q)
/-! ## thrown()I -/
def vX7_thrown (F : Nat → Int32) (G : Nat → Nat → Int32) : Int32 := (F 0)
set_option maxRecDepth 100000 in
set_option maxHeartbeats 4000000 in
theorem k_X7_thrown {l : Launch} (hl : l.stackTraces = false) {D : va_G} {Y : Nat → ClassId} {A : Nat → Prop} {E : State → Prop} (ad : Nat → Nat) (F : Nat → Int32) (G : Nat → Nat → Int32)   : KM l yX7_thrown cX7_thrown 1 (some .int) D Y A E 0 0 0 0 [.ref (ad 0)] (OR D Y A ad F G) (some (.int (vX7_thrown F G))) (OR D Y A ad F G) := by
  refine KM_of RX7 [(0, .ref (ad 0))] rfl (by decide) hl (Nat.le_of_ble_eq_true rfl) rfl (lok_of rfl rfl) ?_
  intro p e s m args below meth c C0
  refine j_aload_n C0 dX7_thrown_0 rfl ?_
  refine r_gf_0 C0 (v := (F 0)) dX7_thrown_1 rfl ?_
  exact j_iretE C0 rfl (by rw [vX7_thrown]) dX7_thrown_4 (fun H h => h)
/-! ## holds(I)Z -/
def vX7_holds (F : Nat → Int32) (G : Nat → Nat → Int32) (a1 : Int32) : Int32 := (if a1 = 0 then (1 : Int32) else (0 : Int32))
set_option maxRecDepth 100000 in
set_option maxHeartbeats 4000000 in
theorem k_X7_holds {l : Launch} (hl : l.stackTraces = false) {D : va_G} {Y : Nat → ClassId} {A : Nat → Prop} {E : State → Prop} (ad : Nat → Nat) (F : Nat → Int32) (G : Nat → Nat → Int32) (a1 : Int32)  : KM l yX7_holds cX7_holds 2 (some .boolean) D Y A E 0 0 0 0 [.ref (ad 0), .int (a1)] (OR D Y A ad F G) (some (.int (vX7_holds F G a1))) (OR D Y A ad (hu F 0 a1) G) := by
  refine KM_of RX7 [(0, .ref (ad 0)), (1, .int (a1))] rfl (by decide) hl (Nat.le_of_ble_eq_true rfl) rfl (lok_of rfl rfl) ?_
  intro p e s m args below meth c C0
  refine j_aload_n C0 dX7_holds_0 rfl ?_
  refine j_iload_n C0 dX7_holds_1 rfl ?_
  refine r_pf_0 C0 dX7_holds_2 ?_
  refine j_iload_n C0 dX7_holds_5 rfl ?_
  refine j_if_ne C0 13 dX7_holds_6 (by decide) (fun (q1 : ¬ (a1 = 0)) => ?_) (fun (q1 : a1 = 0) => ?_)
  ·
    refine j_iconst C0 (v := 0) dX7_holds_13 (by decide) ?_
    exact j_zretE C0 rfl (by rw [vX7_holds, if_neg q1]) (by decide) dX7_holds_14 (fun H h => h)
  ·
    refine j_iconst C0 (v := 1) dX7_holds_9 (by decide) ?_
    refine j_goto C0 14 dX7_holds_10 (by decide) ?_
    exact j_zretE C0 rfl (by rw [vX7_holds, if_pos q1]) (by decide) dX7_holds_14 (fun H h => h)
/-! ## isIn(III)Z -/
def vX7_isIn (a1 : Int32) (a2 : Int32) (a3 : Int32) : Int32 := (if a1 < a2 then (0 : Int32) else (if a3 < a1 then (0 : Int32) else (1 : Int32)))
set_option maxRecDepth 100000 in
set_option maxHeartbeats 4000000 in
theorem k_X7_isIn {l : Launch} (hl : l.stackTraces = false) {D : va_G} {Y : Nat → ClassId} {A : Nat → Prop} {E : State → Prop} {Ω : Heap → Prop} (a1 : Int32) (a2 : Int32) (a3 : Int32)  : KM l yX7_isIn cX7_isIn 3 (some .boolean) D Y A E 0 0 0 0 [.int (a1), .int (a2), .int (a3)] Ω (some (.int (vX7_isIn a1 a2 a3))) Ω := by
  refine KM_of RX7 [(0, .int (a1)), (1, .int (a2)), (2, .int (a3))] rfl (by decide) hl (Nat.le_of_ble_eq_true rfl) rfl (lok_of rfl rfl) ?_
  intro p e s m args below meth c C0
  refine j_iload_n C0 dX7_isIn_0 rfl ?_
  refine j_iload_n C0 dX7_isIn_1 rfl ?_
  refine j_icmp_lt C0 14 dX7_isIn_2 (by decide) (fun (q1 : a1 < a2) => ?_) (fun (q1 : ¬ (a1 < a2)) => ?_)
  ·
    refine j_iconst C0 (v := 0) dX7_isIn_14 (by decide) ?_
    exact j_zretE C0 rfl (by rw [vX7_isIn, if_pos q1]) (by decide) dX7_isIn_15 (fun H h => h)
  ·
    refine j_iload_n C0 dX7_isIn_5 rfl ?_
    refine j_iload_n C0 dX7_isIn_6 rfl ?_
    refine j_icmp_gt C0 14 dX7_isIn_7 (by decide) (fun (q2 : a3 < a1) => ?_) (fun (q2 : ¬ (a3 < a1)) => ?_)
    ·
      refine j_iconst C0 (v := 0) dX7_isIn_14 (by decide) ?_
      exact j_zretE C0 rfl (by rw [vX7_isIn, if_neg q1, if_pos q2]) (by decide) dX7_isIn_15 (fun H h => h)
    ·
      refine j_iconst C0 (v := 1) dX7_isIn_10 (by decide) ?_
      refine j_goto C0 15 dX7_isIn_11 (by decide) ?_
      exact j_zretE C0 rfl (by rw [vX7_isIn, if_neg q1, if_neg q2]) (by decide) dX7_isIn_15 (fun H h => h)
theorem z_X7_isIn : ∀ a1 a2 a3, vX7_isIn a1 a2 a3 = 0 ∨ vX7_isIn a1 a2 a3 = 1 := by
  intro a1 a2 a3
  unfold vX7_isIn
  repeat' split
  all_goals first | exact Or.inl rfl | exact Or.inr rfl
theorem isIn_t {a b c : Int32} (h : ¬ vX7_isIn a b c = 0) : b ≤ a ∧ a ≤ c := by
  unfold vX7_isIn at h
  split at h
  · exact absurd rfl h
  · split at h
    · exact absurd rfl h
    · rename_i h1 h2
      simp only [Int32.lt_iff_toInt_lt, Int32.le_iff_toInt_le] at *
      omega
theorem isIn_f {a b c : Int32} (h : vX7_isIn a b c = 0) : ¬ (b ≤ a ∧ a ≤ c) := by
  unfold vX7_isIn at h
  simp only [Int32.lt_iff_toInt_lt, Int32.le_iff_toInt_le] at *
  split at h
  · omega
  · split at h
    · omega
    · exact absurd h (by decide)
theorem isIn_vp {a c : Int32} {n : Nat} (h : ¬ vX7_isIn a 0 c = 0) (hc : c.toInt < n) : vp_in a n := by
  have h1 := isIn_t h
  rw [vp_in_iff]
  simp only [Int32.le_iff_toInt_le, Int32.toInt_zero] at h1
  omega
/-! ## isShip(I)Z -/
def vX7_isShip (F : Nat → Int32) (G : Nat → Nat → Int32) (a1 : Int32) : Int32 := (vX7_isIn (a1) ((0 : Int32)) (((F 5) - (1 : Int32))))
set_option maxRecDepth 100000 in
set_option maxHeartbeats 4000000 in
theorem k_X7_isShip {l : Launch} (hl : l.stackTraces = false) {D : va_G} {Y : Nat → ClassId} {A : Nat → Prop} {E : State → Prop} (ad : Nat → Nat) (F : Nat → Int32) (G : Nat → Nat → Int32) (a1 : Int32)  : KM l yX7_isShip cX7_isShip 2 (some .boolean) D Y A E 1 22 0 0 [.ref (ad 0), .int (a1)] (OR D Y A ad F G) (some (.int (vX7_isShip F G a1))) (OR D Y A ad F G) := by
  refine KM_of RX7 [(0, .ref (ad 0)), (1, .int (a1))] rfl (by decide) hl (Nat.le_of_ble_eq_true rfl) rfl (lok_of rfl rfl) ?_
  intro p e s m args below meth c C0
  refine j_iload_n C0 dX7_isShip_0 rfl ?_
  refine j_iconst C0 (v := 0) dX7_isShip_1 (by decide) ?_
  refine j_aload_n C0 dX7_isShip_2 rfl ?_
  refine r_gf_5 C0 (v := (F 5)) dX7_isShip_3 rfl ?_
  refine j_iconst C0 (v := 1) dX7_isShip_6 (by decide) ?_
  refine j_isub C0 dX7_isShip_7 ?_
  refine j_callSv C0 (k_X7_isIn hl (a1) ((0 : Int32)) (((F 5) - (1 : Int32))) ) ms_X7_isIn wm_X7_78 rfl rfl ⟨Nat.le_of_ble_eq_true rfl, Nat.le_of_ble_eq_true rfl⟩ (Nat.le_of_ble_eq_true rfl) ⟨Nat.le_refl _, Nat.le_refl _⟩ dX7_isShip_8 ?_
  exact j_zretE C0 rfl (by rw [vX7_isShip]) (nb_of (z_X7_isIn _ _ _)) dX7_isShip_11 (fun H h => h)
theorem z_X7_isShip : ∀ F G a1, vX7_isShip F G a1 = 0 ∨ vX7_isShip F G a1 = 1 := by
  intro F G a1
  unfold vX7_isShip
  repeat' split
  all_goals first | exact Or.inl rfl | exact Or.inr rfl | exact z_X7_isIn _ _ _
theorem isShip_vp {F : Nat → Int32} {G : Nat → Nat → Int32} {a : Int32} (hs : ct (F 5) 30) (h : ¬ vX7_isShip F G a = 0) : vp_in a 30 := by
  obtain ⟨k, h1, h2⟩ := hs
  refine isIn_vp h ?_
  rw [h2, show (1 : Int32) = nI 1 from rfl, pk_sub_toInt (by omega) (by decide)]
  omega
theorem isShip_lt {F : Nat → Int32} {G : Nat → Nat → Int32} {a : Int32} {k : Nat} (hk : k ≤ 30) (h2 : F 5 = nI k) (h : ¬ vX7_isShip F G a = 0) : vp_in a k := by
  refine isIn_vp h ?_
  rw [h2, show (1 : Int32) = nI 1 from rfl, pk_sub_toInt (by omega) (by decide)]
  omega
theorem isShip_no {F : Nat → Int32} {G : Nat → Nat → Int32} {a : Int32} {k : Nat} (hk : k ≤ 30) (h2 : F 5 = nI k) (h : vX7_isShip F G a = 0) : ¬ vp_in a k := by
  have h3 := isIn_f h
  rw [vp_in_iff]
  simp only [Int32.le_iff_toInt_le, Int32.toInt_zero] at h3
  rw [h2, show (1 : Int32) = nI 1 from rfl, pk_sub_toInt (by omega) (by decide)] at h3
  omega
/-! ## isMove(I)Z -/
def vX7_isMove (F : Nat → Int32) (G : Nat → Nat → Int32) (a1 : Int32) : Int32 := (vX7_isIn (a1) ((0 : Int32)) (((F 20) - (1 : Int32))))
set_option maxRecDepth 100000 in
set_option maxHeartbeats 4000000 in
theorem k_X7_isMove {l : Launch} (hl : l.stackTraces = false) {D : va_G} {Y : Nat → ClassId} {A : Nat → Prop} {E : State → Prop} (ad : Nat → Nat) (F : Nat → Int32) (G : Nat → Nat → Int32) (a1 : Int32)  : KM l yX7_isMove cX7_isMove 2 (some .boolean) D Y A E 1 22 0 0 [.ref (ad 0), .int (a1)] (OR D Y A ad F G) (some (.int (vX7_isMove F G a1))) (OR D Y A ad F G) := by
  refine KM_of RX7 [(0, .ref (ad 0)), (1, .int (a1))] rfl (by decide) hl (Nat.le_of_ble_eq_true rfl) rfl (lok_of rfl rfl) ?_
  intro p e s m args below meth c C0
  refine j_iload_n C0 dX7_isMove_0 rfl ?_
  refine j_iconst C0 (v := 0) dX7_isMove_1 (by decide) ?_
  refine j_aload_n C0 dX7_isMove_2 rfl ?_
  refine r_gf_20 C0 (v := (F 20)) dX7_isMove_3 rfl ?_
  refine j_iconst C0 (v := 1) dX7_isMove_6 (by decide) ?_
  refine j_isub C0 dX7_isMove_7 ?_
  refine j_callSv C0 (k_X7_isIn hl (a1) ((0 : Int32)) (((F 20) - (1 : Int32))) ) ms_X7_isIn wm_X7_78 rfl rfl ⟨Nat.le_of_ble_eq_true rfl, Nat.le_of_ble_eq_true rfl⟩ (Nat.le_of_ble_eq_true rfl) ⟨Nat.le_refl _, Nat.le_refl _⟩ dX7_isMove_8 ?_
  exact j_zretE C0 rfl (by rw [vX7_isMove]) (nb_of (z_X7_isIn _ _ _)) dX7_isMove_11 (fun H h => h)
theorem z_X7_isMove : ∀ F G a1, vX7_isMove F G a1 = 0 ∨ vX7_isMove F G a1 = 1 := by
  intro F G a1
  unfold vX7_isMove
  repeat' split
  all_goals first | exact Or.inl rfl | exact Or.inr rfl | exact z_X7_isIn _ _ _
theorem isMove_lt {F : Nat → Int32} {G : Nat → Nat → Int32} {a : Int32} {k : Nat} (hk : k ≤ 100) (h2 : F 20 = nI k) (h : ¬ vX7_isMove F G a = 0) : vp_in a k := by
  refine isIn_vp h ?_
  rw [h2, show (1 : Int32) = nI 1 from rfl, pk_sub_toInt (by omega) (by decide)]
  omega
theorem isMove_no {F : Nat → Int32} {G : Nat → Nat → Int32} {a : Int32} {k : Nat} (hk : k ≤ 100) (h2 : F 20 = nI k) (h : vX7_isMove F G a = 0) : ¬ vp_in a k := by
  have h3 := isIn_f h
  rw [vp_in_iff]
  simp only [Int32.le_iff_toInt_le, Int32.toInt_zero] at h3
  rw [h2, show (1 : Int32) = nI 1 from rfl, pk_sub_toInt (by omega) (by decide)] at h3
  omega
theorem vp_mono {a : Int32} {m n : Nat} (h : vp_in a m) (hn : m ≤ n) : vp_in a n := fun q => h (q.imp id (fun z => Nat.le_trans hn z))
/-! ## isPilot(I)Z -/
def vX7_isPilot (a1 : Int32) : Int32 := (vX7_isIn (a1) ((0 : Int32)) ((5 : Int32)))
set_option maxRecDepth 100000 in
set_option maxHeartbeats 4000000 in
theorem k_X7_isPilot {l : Launch} (hl : l.stackTraces = false) {D : va_G} {Y : Nat → ClassId} {A : Nat → Prop} {E : State → Prop} {Ω : Heap → Prop} (a1 : Int32)  : KM l yX7_isPilot cX7_isPilot 1 (some .boolean) D Y A E 1 22 0 0 [.int (a1)] Ω (some (.int (vX7_isPilot a1))) Ω := by
  refine KM_of RX7 [(0, .int (a1))] rfl (by decide) hl (Nat.le_of_ble_eq_true rfl) rfl (lok_of rfl rfl) ?_
  intro p e s m args below meth c C0
  refine j_iload_n C0 dX7_isPilot_0 rfl ?_
  refine j_iconst C0 (v := 0) dX7_isPilot_1 (by decide) ?_
  refine j_iconst C0 (v := 5) dX7_isPilot_2 (by decide) ?_
  refine j_callSv C0 (k_X7_isIn hl (a1) ((0 : Int32)) ((5 : Int32)) ) ms_X7_isIn wm_X7_78 rfl rfl ⟨Nat.le_of_ble_eq_true rfl, Nat.le_of_ble_eq_true rfl⟩ (Nat.le_of_ble_eq_true rfl) ⟨Nat.le_refl _, Nat.le_refl _⟩ dX7_isPilot_3 ?_
  exact j_zretE C0 rfl (by rw [vX7_isPilot]) (nb_of (z_X7_isIn _ _ _)) dX7_isPilot_6 (fun H h => h)
theorem z_X7_isPilot : ∀ a1, vX7_isPilot a1 = 0 ∨ vX7_isPilot a1 = 1 := by
  intro a1
  unfold vX7_isPilot
  repeat' split
  all_goals first | exact Or.inl rfl | exact Or.inr rfl | exact z_X7_isIn _ _ _
theorem isPilot_vp {a : Int32} (h : ¬ vX7_isPilot a = 0) : vp_in a 6 := isIn_vp h (by decide)
/-- what the state keeps: now, the counts, and that the rows of berths, of moves' ships, of the rota hold numbers of their kinds -/
def RI (F : Nat → Int32) (G : Nat → Nat → Int32) : Prop := ct (F 1) 3000 ∧ ct (F 5) 30 ∧ ct (F 20) 100 ∧ (∀ j, j < 30 → vp_in (G 9 j) 6) ∧ (∀ j, j < 100 → vp_in (G 22 j) 30) ∧ (∀ j, j < 6 → vp_in (G 16 j) 6)
/-! ## depthOf(I)I -/
def vX7_depthOf (F : Nat → Int32) (G : Nat → Nat → Int32) (a1 : Int32) : Int32 := (((G 2) ((a1 - a1 / (12 : Int32) * (12 : Int32))).toNatClampNeg) + ((G 3) (a1).toNatClampNeg))
set_option maxRecDepth 100000 in
set_option maxHeartbeats 4000000 in
theorem k_X7_depthOf {l : Launch} (hl : l.stackTraces = false) {D : va_G} {Y : Nat → ClassId} {A : Nat → Prop} {E : State → Prop} (ad : Nat → Nat) (F : Nat → Int32) (G : Nat → Nat → Int32) (a1 : Int32) (hh : vp_in a1 3160) : KM l yX7_depthOf cX7_depthOf 2 (some .int) D Y A E 0 0 0 0 [.ref (ad 0), .int (a1)] (OR D Y A ad F G) (some (.int (vX7_depthOf F G a1))) (OR D Y A ad F G) := by
  refine KM_of RX7 [(0, .ref (ad 0)), (1, .int (a1))] rfl (by decide) hl (Nat.le_of_ble_eq_true rfl) rfl (lok_of rfl rfl) ?_
  intro p e s m args below meth c C0
  refine j_aload_n C0 dX7_depthOf_0 rfl ?_
  refine r_gf_2 C0 dX7_depthOf_1 ?_
  refine j_iload_n C0 dX7_depthOf_4 rfl ?_
  refine j_bipush C0 (v := 12) dX7_depthOf_5 (by decide) ?_
  refine j_irem C0 dX7_depthOf_7 (by decide) ?_
  refine r_ld_2 C0 (v := ((G 2) ((a1 - a1 / (12 : Int32) * (12 : Int32))).toNatClampNeg)) (vp_rem12 hh (by decide)) dX7_depthOf_8 rfl ?_
  refine j_aload_n C0 dX7_depthOf_9 rfl ?_
  refine r_gf_3 C0 dX7_depthOf_10 ?_
  refine j_iload_n C0 dX7_depthOf_13 rfl ?_
  refine r_ld_3 C0 (v := ((G 3) (a1).toNatClampNeg)) hh dX7_depthOf_14 rfl ?_
  refine j_iadd C0 dX7_depthOf_15 ?_
  exact j_iretE C0 rfl (by rw [vX7_depthOf]) dX7_depthOf_16 (fun H h => h)
/-! ## wasUsed(I)Z -/
def bX7_wasUsed_4 (F : Nat → Int32) (G : Nat → Nat → Int32) (a1 : Int32) (j4 : Nat) (v4 : Int32) : Int32 := (if v4 = 0 then (if ((G 9) (((G 22) (nI j4).toNatClampNeg)).toNatClampNeg) = a1 then ((1 : Int32)) else ((0 : Int32))) else ((1 : Int32)))
def vX7_wasUsed (F : Nat → Int32) (G : Nat → Nat → Int32) (a1 : Int32) : Int32 := (nf (bX7_wasUsed_4 F G a1) ((0 : Int32)) ((F 20).toNatClampNeg))
theorem z_X7_wasUsed (F : Nat → Int32) (G : Nat → Nat → Int32) (a1 : Int32) (N : Nat) : nf (bX7_wasUsed_4 F G a1) (0 : Int32) N = 0 ∨ nf (bX7_wasUsed_4 F G a1) (0 : Int32) N = 1 := by
  induction N with
  | zero => exact Or.inl rfl
  | succ n ih =>
    rw [nf, bX7_wasUsed_4]
    repeat' split
    all_goals first | exact Or.inl rfl | exact Or.inr rfl | exact ih
set_option maxRecDepth 100000 in
set_option maxHeartbeats 4000000 in
theorem k_X7_wasUsed {l : Launch} (hl : l.stackTraces = false) {D : va_G} {Y : Nat → ClassId} {A : Nat → Prop} {E : State → Prop} (ad : Nat → Nat) (F : Nat → Int32) (G : Nat → Nat → Int32) (a1 : Int32) (hm : ct (F 20) 100) (hw : ∀ j, j < 100 → vp_in (G 22 j) 30) : KM l yX7_wasUsed cX7_wasUsed 4 (some .boolean) D Y A E 0 0 0 0 [.ref (ad 0), .int (a1)] (OR D Y A ad F G) (some (.int (vX7_wasUsed F G a1))) (OR D Y A ad F G) := by
  refine KM_of RX7 [(0, .ref (ad 0)), (1, .int (a1))] rfl (by decide) hl (Nat.le_of_ble_eq_true rfl) rfl (lok_of rfl rfl) ?_
  intro p e s m args below meth c C0
  have hmc := hm.cl (by decide)
  refine j_iconst C0 (v := 0) dX7_wasUsed_0 (by decide) ?_
  refine j_istore_n C0 (L' := [(0, .ref (ad 0)), (1, .int (a1)), (2, .int ((0 : Int32)))]) dX7_wasUsed_1 (by decide) rfl ?_
  refine j_iconst C0 (v := 0) dX7_wasUsed_2 (by decide) ?_
  refine j_istore_n C0 (L' := [(0, .ref (ad 0)), (1, .int (a1)), (2, .int ((0 : Int32))), (3, .int ((0 : Int32)))]) dX7_wasUsed_3 (by decide) rfl ?_
  refine hb_lp (P := fun (j : Nat) (v : Int32) => J p l e _ s m args below meth c A 4 _ (OV D Y A ad (F 0) (F 1) (F 5) (F 18) (F 19) (F 20) (G 2) (G 3) (G 4) (G 6) (G 7) (G 8) (G 9) (G 10) (G 11) (G 12) (G 13) (G 14) (G 15) (G 16) (G 17) (G 21) (G 22) (G 23) (G 24) (G 25)) 0 0 4 [(0, .ref (ad 0)), (1, .int (a1)), (2, .int (v)), (3, .int (nI j))] []) (bX7_wasUsed_4 F G a1) ((0 : Int32)) ((F 20).toNatClampNeg) ?_ ?_
  ·
    intro j4 hj4 K4
    generalize nf (bX7_wasUsed_4 F G a1) ((0 : Int32)) j4 = v4 at K4 ⊢
    show J p l e _ s m args below meth c A 4 _ (OV D Y A ad (F 0) (F 1) (F 5) (F 18) (F 19) (F 20) (G 2) (G 3) (G 4) (G 6) (G 7) (G 8) (G 9) (G 10) (G 11) (G 12) (G 13) (G 14) (G 15) (G 16) (G 17) (G 21) (G 22) (G 23) (G 24) (G 25)) 0 0 4 [(0, .ref (ad 0)), (1, .int (a1)), (2, .int (v4)), (3, .int (nI j4))] []
    replace K4 : J p l e _ s m args below meth c A 4 _ (OV D Y A ad (F 0) (F 1) (F 5) (F 18) (F 19) (F 20) (G 2) (G 3) (G 4) (G 6) (G 7) (G 8) (G 9) (G 10) (G 11) (G 12) (G 13) (G 14) (G 15) (G 16) (G 17) (G 21) (G 22) (G 23) (G 24) (G 25)) 0 0 4 [(0, .ref (ad 0)), (1, .int (a1)), (2, .int ((bX7_wasUsed_4 F G a1 j4 v4))), (3, .int (nI (j4 + 1)))] [] := K4
    refine j_iload_n C0 dX7_wasUsed_4 rfl ?_
    refine j_aload_n C0 dX7_wasUsed_5 rfl ?_
    refine r_gf_20 C0 (v := (F 20)) dX7_wasUsed_6 rfl ?_
    refine j_icmp_ge C0 43 dX7_wasUsed_9 (by decide) (fun z => absurd z (cl_lt rfl hj4)) (fun _ => ?_)
    refine j_iload_n C0 dX7_wasUsed_12 rfl ?_
    refine j_if_ne C0 31 dX7_wasUsed_13 (by decide) (fun (q2 : ¬ (v4 = 0)) => ?_) (fun (q2 : v4 = 0) => ?_)
    ·
      refine j_iconst C0 (v := 1) dX7_wasUsed_31 (by decide) ?_
      refine j_goto C0 36 dX7_wasUsed_32 (by decide) ?_
      refine j_istore_n C0 (L' := [(0, .ref (ad 0)), (1, .int (a1)), (2, .int ((1 : Int32))), (3, .int (nI j4))]) dX7_wasUsed_36 (by decide) rfl ?_
      refine j_iinc C0 (v := nI (j4 + 1)) (L' := [(0, .ref (ad 0)), (1, .int (a1)), (2, .int ((1 : Int32))), (3, .int (nI (j4 + 1)))]) dX7_wasUsed_37 rfl (nI_inc j4) (by decide) rfl ?_
      refine j_goto C0 4 dX7_wasUsed_40 (by decide) ?_
      rw [bX7_wasUsed_4, if_neg q2] at K4
      exact K4
    ·
      refine j_aload_n C0 dX7_wasUsed_16 rfl ?_
      refine r_gf_9 C0 dX7_wasUsed_17 ?_
      refine j_aload_n C0 dX7_wasUsed_20 rfl ?_
      refine r_gf_22 C0 dX7_wasUsed_21 ?_
      refine j_iload_n C0 dX7_wasUsed_24 rfl ?_
      refine r_ld_22 C0 (v := ((G 22) (nI j4).toNatClampNeg)) (vp_nI (by omega) (by decide)) dX7_wasUsed_25 rfl ?_
      refine r_ld_9 C0 (v := ((G 9) (((G 22) (nI j4).toNatClampNeg)).toNatClampNeg)) (vp_at (N := 100) (P := fun z => vp_in z 30) (g := G 22) (j := j4) hw (by omega) (by decide)) dX7_wasUsed_26 rfl ?_
      refine j_iload_n C0 dX7_wasUsed_27 rfl ?_
      refine j_icmp_ne C0 35 dX7_wasUsed_28 (by decide) (fun (q3 : ¬ (((G 9) (((G 22) (nI j4).toNatClampNeg)).toNatClampNeg) = a1)) => ?_) (fun (q3 : ((G 9) (((G 22) (nI j4).toNatClampNeg)).toNatClampNeg) = a1) => ?_)
      ·
        refine j_iconst C0 (v := 0) dX7_wasUsed_35 (by decide) ?_
        refine j_istore_n C0 (L' := [(0, .ref (ad 0)), (1, .int (a1)), (2, .int ((0 : Int32))), (3, .int (nI j4))]) dX7_wasUsed_36 (by decide) rfl ?_
        refine j_iinc C0 (v := nI (j4 + 1)) (L' := [(0, .ref (ad 0)), (1, .int (a1)), (2, .int ((0 : Int32))), (3, .int (nI (j4 + 1)))]) dX7_wasUsed_37 rfl (nI_inc j4) (by decide) rfl ?_
        refine j_goto C0 4 dX7_wasUsed_40 (by decide) ?_
        rw [bX7_wasUsed_4, if_pos q2, if_neg q3] at K4
        exact K4
      ·
        refine j_iconst C0 (v := 1) dX7_wasUsed_31 (by decide) ?_
        refine j_goto C0 36 dX7_wasUsed_32 (by decide) ?_
        refine j_istore_n C0 (L' := [(0, .ref (ad 0)), (1, .int (a1)), (2, .int ((1 : Int32))), (3, .int (nI j4))]) dX7_wasUsed_36 (by decide) rfl ?_
        refine j_iinc C0 (v := nI (j4 + 1)) (L' := [(0, .ref (ad 0)), (1, .int (a1)), (2, .int ((1 : Int32))), (3, .int (nI (j4 + 1)))]) dX7_wasUsed_37 rfl (nI_inc j4) (by decide) rfl ?_
        refine j_goto C0 4 dX7_wasUsed_40 (by decide) ?_
        rw [bX7_wasUsed_4, if_pos q2, if_pos q3] at K4
        exact K4
  ·
    show J p l e _ s m args below meth c A 4 _ (OV D Y A ad (F 0) (F 1) (F 5) (F 18) (F 19) (F 20) (G 2) (G 3) (G 4) (G 6) (G 7) (G 8) (G 9) (G 10) (G 11) (G 12) (G 13) (G 14) (G 15) (G 16) (G 17) (G 21) (G 22) (G 23) (G 24) (G 25)) 0 0 4 [(0, .ref (ad 0)), (1, .int (a1)), (2, .int ((nf (bX7_wasUsed_4 F G a1) ((0 : Int32)) ((F 20).toNatClampNeg)))), (3, .int (nI (((F 20).toNatClampNeg))))] []
    refine j_iload_n C0 dX7_wasUsed_4 rfl ?_
    refine j_aload_n C0 dX7_wasUsed_5 rfl ?_
    refine r_gf_20 C0 (v := (F 20)) dX7_wasUsed_6 rfl ?_
    refine j_icmp_ge C0 43 dX7_wasUsed_9 (by decide) (fun _ => ?_) (fun z => absurd (cl_le rfl) z)
    refine j_iload_n C0 dX7_wasUsed_43 rfl ?_
    exact j_zretE C0 rfl (by rw [vX7_wasUsed]) (nb_of (z_X7_wasUsed F G a1 _)) dX7_wasUsed_44 (fun H h => h)
/-! ## floats(II)Z -/
def vX7_floats (F : Nat → Int32) (G : Nat → Nat → Int32) (a1 : Int32) (a2 : Int32) : Int32 := (if ((G 10) (a1).toNatClampNeg) = 0 then (if ((vX7_depthOf F G (a2)) + (30 : Int32)) < (((G 7) (a1).toNatClampNeg) + (5 : Int32)) then (0 : Int32) else (if ((vX7_depthOf F G ((a2 + (1 : Int32)))) + ((G 4) (((G 9) (a1).toNatClampNeg)).toNatClampNeg)) < (((G 7) (a1).toNatClampNeg) + (5 : Int32)) then (0 : Int32) else (1 : Int32))) else (if ((G 10) (a1).toNatClampNeg) = (2 : Int32) then (if ((vX7_depthOf F G (a2)) + ((G 4) (((G 9) (a1).toNatClampNeg)).toNatClampNeg)) < (((G 7) (a1).toNatClampNeg) + (5 : Int32)) then (0 : Int32) else (if ((vX7_depthOf F G ((a2 + (1 : Int32)))) + (30 : Int32)) < (((G 7) (a1).toNatClampNeg) + (5 : Int32)) then (0 : Int32) else (1 : Int32))) else (0 : Int32)))
set_option maxRecDepth 100000 in
set_option maxHeartbeats 4000000 in
theorem k_X7_floats {l : Launch} (hl : l.stackTraces = false) {D : va_G} {Y : Nat → ClassId} {A : Nat → Prop} {E : State → Prop} (ad : Nat → Nat) (F : Nat → Int32) (G : Nat → Nat → Int32) (a1 : Int32) (a2 : Int32) (hs1 : vp_in a1 30) (hb : vp_in (G 9 a1.toNatClampNeg) 6) (hh : vp_in a2 3160) (hh1 : vp_in (a2 + 1) 3160) : KM l yX7_floats cX7_floats 7 (some .boolean) D Y A E 1 21 0 0 [.ref (ad 0), .int (a1), .int (a2)] (OR D Y A ad F G) (some (.int (vX7_floats F G a1 a2))) (OR D Y A ad F G) := by
  refine KM_of RX7 [(0, .ref (ad 0)), (1, .int (a1)), (2, .int (a2))] rfl (by decide) hl (Nat.le_of_ble_eq_true rfl) rfl (lok_of rfl rfl) ?_
  intro p e s m args below meth c C0
  refine j_aload_n C0 dX7_floats_0 rfl ?_
  refine r_gf_10 C0 dX7_floats_1 ?_
  refine j_iload_n C0 dX7_floats_4 rfl ?_
  refine r_ld_10 C0 (v := ((G 10) (a1).toNatClampNeg)) hs1 dX7_floats_5 rfl ?_
  refine j_if_ne C0 14 dX7_floats_6 (by decide) (fun (q1 : ¬ (((G 10) (a1).toNatClampNeg) = 0)) => ?_) (fun (q1 : ((G 10) (a1).toNatClampNeg) = 0) => ?_)
  ·
    refine j_aload_n C0 dX7_floats_14 rfl ?_
    refine r_gf_4 C0 dX7_floats_15 ?_
    refine j_aload_n C0 dX7_floats_18 rfl ?_
    refine r_gf_9 C0 dX7_floats_19 ?_
    refine j_iload_n C0 dX7_floats_22 rfl ?_
    refine r_ld_9 C0 (v := ((G 9) (a1).toNatClampNeg)) hs1 dX7_floats_23 rfl ?_
    refine r_ld_4 C0 (v := ((G 4) (((G 9) (a1).toNatClampNeg)).toNatClampNeg)) hb dX7_floats_24 rfl ?_
    refine j_istore_n C0 (L' := [(0, .ref (ad 0)), (1, .int (a1)), (2, .int (a2)), (3, .int (((G 4) (((G 9) (a1).toNatClampNeg)).toNatClampNeg)))]) dX7_floats_25 (by decide) rfl ?_
    refine j_aload_n C0 dX7_floats_26 rfl ?_
    refine r_gf_10 C0 dX7_floats_27 ?_
    refine j_iload_n C0 dX7_floats_30 rfl ?_
    refine r_ld_10 C0 (v := ((G 10) (a1).toNatClampNeg)) hs1 dX7_floats_31 rfl ?_
    refine j_if_ne C0 49 dX7_floats_32 (by decide) (fun _ => ?_) (fun z => absurd z q1)
    refine j_bipush C0 (v := 30) dX7_floats_49 (by decide) ?_
    refine j_istore C0 (L' := [(0, .ref (ad 0)), (1, .int (a1)), (2, .int (a2)), (3, .int (((G 4) (((G 9) (a1).toNatClampNeg)).toNatClampNeg))), (4, .int ((30 : Int32)))]) dX7_floats_51 (by decide) rfl ?_
    refine j_aload_n C0 dX7_floats_53 rfl ?_
    refine r_gf_7 C0 dX7_floats_54 ?_
    refine j_iload_n C0 dX7_floats_57 rfl ?_
    refine r_ld_7 C0 (v := ((G 7) (a1).toNatClampNeg)) hs1 dX7_floats_58 rfl ?_
    refine j_iconst C0 (v := 5) dX7_floats_59 (by decide) ?_
    refine j_iadd C0 dX7_floats_60 ?_
    refine j_istore C0 (L' := [(0, .ref (ad 0)), (1, .int (a1)), (2, .int (a2)), (3, .int (((G 4) (((G 9) (a1).toNatClampNeg)).toNatClampNeg))), (4, .int ((30 : Int32))), (5, .int ((((G 7) (a1).toNatClampNeg) + (5 : Int32))))]) dX7_floats_61 (by decide) rfl ?_
    refine j_aload_n C0 dX7_floats_63 rfl ?_
    refine r_gf_10 C0 dX7_floats_64 ?_
    refine j_iload_n C0 dX7_floats_67 rfl ?_
    refine r_ld_10 C0 (v := ((G 10) (a1).toNatClampNeg)) hs1 dX7_floats_68 rfl ?_
    refine j_if_eq C0 82 dX7_floats_69 (by decide) (fun z => absurd z q1) (fun _ => ?_)
    refine j_aload_n C0 dX7_floats_72 rfl ?_
    refine r_gf_10 C0 dX7_floats_73 ?_
    refine j_iload_n C0 dX7_floats_76 rfl ?_
    refine r_ld_10 C0 (v := ((G 10) (a1).toNatClampNeg)) hs1 dX7_floats_77 rfl ?_
    refine j_iconst C0 (v := 2) dX7_floats_78 (by decide) ?_
    refine j_icmp_ne C0 86 dX7_floats_79 (by decide) (fun (q4 : ¬ (((G 10) (a1).toNatClampNeg) = (2 : Int32))) => ?_) (fun (q4 : ((G 10) (a1).toNatClampNeg) = (2 : Int32)) => ?_)
    ·
      refine j_iconst C0 (v := 0) dX7_floats_86 (by decide) ?_
      refine j_istore C0 (L' := [(0, .ref (ad 0)), (1, .int (a1)), (2, .int (a2)), (3, .int (((G 4) (((G 9) (a1).toNatClampNeg)).toNatClampNeg))), (4, .int ((30 : Int32))), (5, .int ((((G 7) (a1).toNatClampNeg) + (5 : Int32)))), (6, .int ((0 : Int32)))]) dX7_floats_87 (by decide) rfl ?_
      refine j_iload C0 dX7_floats_89 rfl ?_
      refine j_if_eq C0 125 dX7_floats_91 (by decide) (fun _ => ?_) (fun z => absurd (by decide) z)
      refine j_iconst C0 (v := 0) dX7_floats_125 (by decide) ?_
      exact j_zretE C0 rfl (by rw [vX7_floats, if_neg q1, if_neg q4]) (by decide) dX7_floats_126 (fun H h => h)
    ·
      refine j_iconst C0 (v := 1) dX7_floats_82 (by decide) ?_
      refine j_goto C0 87 dX7_floats_83 (by decide) ?_
      refine j_istore C0 (L' := [(0, .ref (ad 0)), (1, .int (a1)), (2, .int (a2)), (3, .int (((G 4) (((G 9) (a1).toNatClampNeg)).toNatClampNeg))), (4, .int ((30 : Int32))), (5, .int ((((G 7) (a1).toNatClampNeg) + (5 : Int32)))), (6, .int ((1 : Int32)))]) dX7_floats_87 (by decide) rfl ?_
      refine j_iload C0 dX7_floats_89 rfl ?_
      refine j_if_eq C0 125 dX7_floats_91 (by decide) (fun z => absurd z (by decide)) (fun _ => ?_)
      refine j_aload_n C0 dX7_floats_94 rfl ?_
      refine j_iload_n C0 dX7_floats_95 rfl ?_
      refine j_callVv C0 (k_X7_depthOf hl ad F G (a2) hh) mv_X7_depthOf wm_X7_92 (r_recv C0) rfl rfl ⟨Nat.le_of_ble_eq_true rfl, Nat.le_of_ble_eq_true rfl⟩ (Nat.le_of_ble_eq_true rfl) ⟨Nat.le_refl _, Nat.le_refl _⟩ dX7_floats_96 ?_
      refine j_iload_n C0 dX7_floats_99 rfl ?_
      refine j_iadd C0 dX7_floats_100 ?_
      refine j_iload C0 dX7_floats_101 rfl ?_
      refine j_icmp_lt C0 125 dX7_floats_103 (by decide) (fun (q7 : ((vX7_depthOf F G (a2)) + ((G 4) (((G 9) (a1).toNatClampNeg)).toNatClampNeg)) < (((G 7) (a1).toNatClampNeg) + (5 : Int32))) => ?_) (fun (q7 : ¬ (((vX7_depthOf F G (a2)) + ((G 4) (((G 9) (a1).toNatClampNeg)).toNatClampNeg)) < (((G 7) (a1).toNatClampNeg) + (5 : Int32)))) => ?_)
      ·
        refine j_iconst C0 (v := 0) dX7_floats_125 (by decide) ?_
        exact j_zretE C0 rfl (by rw [vX7_floats, if_neg q1, if_pos q4, if_pos q7]) (by decide) dX7_floats_126 (fun H h => h)
      ·
        refine j_aload_n C0 dX7_floats_106 rfl ?_
        refine j_iload_n C0 dX7_floats_107 rfl ?_
        refine j_iconst C0 (v := 1) dX7_floats_108 (by decide) ?_
        refine j_iadd C0 dX7_floats_109 ?_
        refine j_callVv C0 (k_X7_depthOf hl ad F G ((a2 + (1 : Int32))) hh1) mv_X7_depthOf wm_X7_92 (r_recv C0) rfl rfl ⟨Nat.le_of_ble_eq_true rfl, Nat.le_of_ble_eq_true rfl⟩ (Nat.le_of_ble_eq_true rfl) ⟨Nat.le_refl _, Nat.le_refl _⟩ dX7_floats_110 ?_
        refine j_iload C0 dX7_floats_113 rfl ?_
        refine j_iadd C0 dX7_floats_115 ?_
        refine j_iload C0 dX7_floats_116 rfl ?_
        refine j_icmp_lt C0 125 dX7_floats_118 (by decide) (fun (q8 : ((vX7_depthOf F G ((a2 + (1 : Int32)))) + (30 : Int32)) < (((G 7) (a1).toNatClampNeg) + (5 : Int32))) => ?_) (fun (q8 : ¬ (((vX7_depthOf F G ((a2 + (1 : Int32)))) + (30 : Int32)) < (((G 7) (a1).toNatClampNeg) + (5 : Int32)))) => ?_)
        ·
          refine j_iconst C0 (v := 0) dX7_floats_125 (by decide) ?_
          exact j_zretE C0 rfl (by rw [vX7_floats, if_neg q1, if_pos q4, if_neg q7, if_pos q8]) (by decide) dX7_floats_126 (fun H h => h)
        ·
          refine j_iconst C0 (v := 1) dX7_floats_121 (by decide) ?_
          refine j_goto C0 126 dX7_floats_122 (by decide) ?_
          exact j_zretE C0 rfl (by rw [vX7_floats, if_neg q1, if_pos q4, if_neg q7, if_neg q8]) (by decide) dX7_floats_126 (fun H h => h)
  ·
    refine j_bipush C0 (v := 30) dX7_floats_9 (by decide) ?_
    refine j_goto C0 25 dX7_floats_11 (by decide) ?_
    refine j_istore_n C0 (L' := [(0, .ref (ad 0)), (1, .int (a1)), (2, .int (a2)), (3, .int ((30 : Int32)))]) dX7_floats_25 (by decide) rfl ?_
    refine j_aload_n C0 dX7_floats_26 rfl ?_
    refine r_gf_10 C0 dX7_floats_27 ?_
    refine j_iload_n C0 dX7_floats_30 rfl ?_
    refine r_ld_10 C0 (v := ((G 10) (a1).toNatClampNeg)) hs1 dX7_floats_31 rfl ?_
    refine j_if_ne C0 49 dX7_floats_32 (by decide) (fun z => absurd q1 z) (fun _ => ?_)
    refine j_aload_n C0 dX7_floats_35 rfl ?_
    refine r_gf_4 C0 dX7_floats_36 ?_
    refine j_aload_n C0 dX7_floats_39 rfl ?_
    refine r_gf_9 C0 dX7_floats_40 ?_
    refine j_iload_n C0 dX7_floats_43 rfl ?_
    refine r_ld_9 C0 (v := ((G 9) (a1).toNatClampNeg)) hs1 dX7_floats_44 rfl ?_
    refine r_ld_4 C0 (v := ((G 4) (((G 9) (a1).toNatClampNeg)).toNatClampNeg)) hb dX7_floats_45 rfl ?_
    refine j_goto C0 51 dX7_floats_46 (by decide) ?_
    refine j_istore C0 (L' := [(0, .ref (ad 0)), (1, .int (a1)), (2, .int (a2)), (3, .int ((30 : Int32))), (4, .int (((G 4) (((G 9) (a1).toNatClampNeg)).toNatClampNeg)))]) dX7_floats_51 (by decide) rfl ?_
    refine j_aload_n C0 dX7_floats_53 rfl ?_
    refine r_gf_7 C0 dX7_floats_54 ?_
    refine j_iload_n C0 dX7_floats_57 rfl ?_
    refine r_ld_7 C0 (v := ((G 7) (a1).toNatClampNeg)) hs1 dX7_floats_58 rfl ?_
    refine j_iconst C0 (v := 5) dX7_floats_59 (by decide) ?_
    refine j_iadd C0 dX7_floats_60 ?_
    refine j_istore C0 (L' := [(0, .ref (ad 0)), (1, .int (a1)), (2, .int (a2)), (3, .int ((30 : Int32))), (4, .int (((G 4) (((G 9) (a1).toNatClampNeg)).toNatClampNeg))), (5, .int ((((G 7) (a1).toNatClampNeg) + (5 : Int32))))]) dX7_floats_61 (by decide) rfl ?_
    refine j_aload_n C0 dX7_floats_63 rfl ?_
    refine r_gf_10 C0 dX7_floats_64 ?_
    refine j_iload_n C0 dX7_floats_67 rfl ?_
    refine r_ld_10 C0 (v := ((G 10) (a1).toNatClampNeg)) hs1 dX7_floats_68 rfl ?_
    refine j_if_eq C0 82 dX7_floats_69 (by decide) (fun _ => ?_) (fun z => absurd q1 z)
    refine j_iconst C0 (v := 1) dX7_floats_82 (by decide) ?_
    refine j_goto C0 87 dX7_floats_83 (by decide) ?_
    refine j_istore C0 (L' := [(0, .ref (ad 0)), (1, .int (a1)), (2, .int (a2)), (3, .int ((30 : Int32))), (4, .int (((G 4) (((G 9) (a1).toNatClampNeg)).toNatClampNeg))), (5, .int ((((G 7) (a1).toNatClampNeg) + (5 : Int32)))), (6, .int ((1 : Int32)))]) dX7_floats_87 (by decide) rfl ?_
    refine j_iload C0 dX7_floats_89 rfl ?_
    refine j_if_eq C0 125 dX7_floats_91 (by decide) (fun z => absurd z (by decide)) (fun _ => ?_)
    refine j_aload_n C0 dX7_floats_94 rfl ?_
    refine j_iload_n C0 dX7_floats_95 rfl ?_
    refine j_callVv C0 (k_X7_depthOf hl ad F G (a2) hh) mv_X7_depthOf wm_X7_92 (r_recv C0) rfl rfl ⟨Nat.le_of_ble_eq_true rfl, Nat.le_of_ble_eq_true rfl⟩ (Nat.le_of_ble_eq_true rfl) ⟨Nat.le_refl _, Nat.le_refl _⟩ dX7_floats_96 ?_
    refine j_iload_n C0 dX7_floats_99 rfl ?_
    refine j_iadd C0 dX7_floats_100 ?_
    refine j_iload C0 dX7_floats_101 rfl ?_
    refine j_icmp_lt C0 125 dX7_floats_103 (by decide) (fun (q12 : ((vX7_depthOf F G (a2)) + (30 : Int32)) < (((G 7) (a1).toNatClampNeg) + (5 : Int32))) => ?_) (fun (q12 : ¬ (((vX7_depthOf F G (a2)) + (30 : Int32)) < (((G 7) (a1).toNatClampNeg) + (5 : Int32)))) => ?_)
    ·
      refine j_iconst C0 (v := 0) dX7_floats_125 (by decide) ?_
      exact j_zretE C0 rfl (by rw [vX7_floats, if_pos q1, if_pos q12]) (by decide) dX7_floats_126 (fun H h => h)
    ·
      refine j_aload_n C0 dX7_floats_106 rfl ?_
      refine j_iload_n C0 dX7_floats_107 rfl ?_
      refine j_iconst C0 (v := 1) dX7_floats_108 (by decide) ?_
      refine j_iadd C0 dX7_floats_109 ?_
      refine j_callVv C0 (k_X7_depthOf hl ad F G ((a2 + (1 : Int32))) hh1) mv_X7_depthOf wm_X7_92 (r_recv C0) rfl rfl ⟨Nat.le_of_ble_eq_true rfl, Nat.le_of_ble_eq_true rfl⟩ (Nat.le_of_ble_eq_true rfl) ⟨Nat.le_refl _, Nat.le_refl _⟩ dX7_floats_110 ?_
      refine j_iload C0 dX7_floats_113 rfl ?_
      refine j_iadd C0 dX7_floats_115 ?_
      refine j_iload C0 dX7_floats_116 rfl ?_
      refine j_icmp_lt C0 125 dX7_floats_118 (by decide) (fun (q13 : ((vX7_depthOf F G ((a2 + (1 : Int32)))) + ((G 4) (((G 9) (a1).toNatClampNeg)).toNatClampNeg)) < (((G 7) (a1).toNatClampNeg) + (5 : Int32))) => ?_) (fun (q13 : ¬ (((vX7_depthOf F G ((a2 + (1 : Int32)))) + ((G 4) (((G 9) (a1).toNatClampNeg)).toNatClampNeg)) < (((G 7) (a1).toNatClampNeg) + (5 : Int32)))) => ?_)
      ·
        refine j_iconst C0 (v := 0) dX7_floats_125 (by decide) ?_
        exact j_zretE C0 rfl (by rw [vX7_floats, if_pos q1, if_neg q12, if_pos q13]) (by decide) dX7_floats_126 (fun H h => h)
      ·
        refine j_iconst C0 (v := 1) dX7_floats_121 (by decide) ?_
        refine j_goto C0 126 dX7_floats_122 (by decide) ?_
        exact j_zretE C0 rfl (by rw [vX7_floats, if_pos q1, if_neg q12, if_neg q13]) (by decide) dX7_floats_126 (fun H h => h)
/-! ## ordered()I -/
def bX7_ordered_4 (F : Nat → Int32) (G : Nat → Nat → Int32) (j4 : Nat) (v4 : Int32) : Int32 := (if ((G 11) (nI j4).toNatClampNeg) = (-1 : Int32) then ((v4 + (0 : Int32))) else ((v4 + (1 : Int32))))
def vX7_ordered (F : Nat → Int32) (G : Nat → Nat → Int32) : Int32 := (nf (bX7_ordered_4 F G) ((0 : Int32)) ((F 5).toNatClampNeg))
set_option maxRecDepth 100000 in
set_option maxHeartbeats 4000000 in
theorem k_X7_ordered {l : Launch} (hl : l.stackTraces = false) {D : va_G} {Y : Nat → ClassId} {A : Nat → Prop} {E : State → Prop} (ad : Nat → Nat) (F : Nat → Int32) (G : Nat → Nat → Int32)  (hs : ct (F 5) 30) : KM l yX7_ordered cX7_ordered 3 (some .int) D Y A E 0 0 0 0 [.ref (ad 0)] (OR D Y A ad F G) (some (.int (vX7_ordered F G))) (OR D Y A ad F G) := by
  refine KM_of RX7 [(0, .ref (ad 0))] rfl (by decide) hl (Nat.le_of_ble_eq_true rfl) rfl (lok_of rfl rfl) ?_
  intro p e s m args below meth c C0
  have hsc := hs.cl (by decide)
  refine j_iconst C0 (v := 0) dX7_ordered_0 (by decide) ?_
  refine j_istore_n C0 (L' := [(0, .ref (ad 0)), (1, .int ((0 : Int32)))]) dX7_ordered_1 (by decide) rfl ?_
  refine j_iconst C0 (v := 0) dX7_ordered_2 (by decide) ?_
  refine j_istore_n C0 (L' := [(0, .ref (ad 0)), (1, .int ((0 : Int32))), (2, .int ((0 : Int32)))]) dX7_ordered_3 (by decide) rfl ?_
  refine hb_lp (P := fun (j : Nat) (v : Int32) => J p l e _ s m args below meth c A 3 _ (OV D Y A ad (F 0) (F 1) (F 5) (F 18) (F 19) (F 20) (G 2) (G 3) (G 4) (G 6) (G 7) (G 8) (G 9) (G 10) (G 11) (G 12) (G 13) (G 14) (G 15) (G 16) (G 17) (G 21) (G 22) (G 23) (G 24) (G 25)) 0 0 4 [(0, .ref (ad 0)), (1, .int (v)), (2, .int (nI j))] []) (bX7_ordered_4 F G) ((0 : Int32)) ((F 5).toNatClampNeg) ?_ ?_
  ·
    intro j4 hj4 K4
    generalize nf (bX7_ordered_4 F G) ((0 : Int32)) j4 = v4 at K4 ⊢
    show J p l e _ s m args below meth c A 3 _ (OV D Y A ad (F 0) (F 1) (F 5) (F 18) (F 19) (F 20) (G 2) (G 3) (G 4) (G 6) (G 7) (G 8) (G 9) (G 10) (G 11) (G 12) (G 13) (G 14) (G 15) (G 16) (G 17) (G 21) (G 22) (G 23) (G 24) (G 25)) 0 0 4 [(0, .ref (ad 0)), (1, .int (v4)), (2, .int (nI j4))] []
    replace K4 : J p l e _ s m args below meth c A 3 _ (OV D Y A ad (F 0) (F 1) (F 5) (F 18) (F 19) (F 20) (G 2) (G 3) (G 4) (G 6) (G 7) (G 8) (G 9) (G 10) (G 11) (G 12) (G 13) (G 14) (G 15) (G 16) (G 17) (G 21) (G 22) (G 23) (G 24) (G 25)) 0 0 4 [(0, .ref (ad 0)), (1, .int ((bX7_ordered_4 F G j4 v4))), (2, .int (nI (j4 + 1)))] [] := K4
    refine j_iload_n C0 dX7_ordered_4 rfl ?_
    refine j_aload_n C0 dX7_ordered_5 rfl ?_
    refine r_gf_5 C0 (v := (F 5)) dX7_ordered_6 rfl ?_
    refine j_icmp_ge C0 36 dX7_ordered_9 (by decide) (fun z => absurd z (cl_lt rfl hj4)) (fun _ => ?_)
    refine j_iload_n C0 dX7_ordered_12 rfl ?_
    refine j_aload_n C0 dX7_ordered_13 rfl ?_
    refine r_gf_11 C0 dX7_ordered_14 ?_
    refine j_iload_n C0 dX7_ordered_17 rfl ?_
    refine r_ld_11 C0 (v := ((G 11) (nI j4).toNatClampNeg)) (vp_nI (by omega) (by decide)) dX7_ordered_18 rfl ?_
    refine j_iconst C0 (v := -1) dX7_ordered_19 (by decide) ?_
    refine j_icmp_eq C0 27 dX7_ordered_20 (by decide) (fun (q2 : ((G 11) (nI j4).toNatClampNeg) = (-1 : Int32)) => ?_) (fun (q2 : ¬ (((G 11) (nI j4).toNatClampNeg) = (-1 : Int32))) => ?_)
    ·
      refine j_iconst C0 (v := 0) dX7_ordered_27 (by decide) ?_
      refine j_iadd C0 dX7_ordered_28 ?_
      refine j_istore_n C0 (L' := [(0, .ref (ad 0)), (1, .int ((v4 + (0 : Int32)))), (2, .int (nI j4))]) dX7_ordered_29 (by decide) rfl ?_
      refine j_iinc C0 (v := nI (j4 + 1)) (L' := [(0, .ref (ad 0)), (1, .int ((v4 + (0 : Int32)))), (2, .int (nI (j4 + 1)))]) dX7_ordered_30 rfl (nI_inc j4) (by decide) rfl ?_
      refine j_goto C0 4 dX7_ordered_33 (by decide) ?_
      rw [bX7_ordered_4, if_pos q2] at K4
      exact K4
    ·
      refine j_iconst C0 (v := 1) dX7_ordered_23 (by decide) ?_
      refine j_goto C0 28 dX7_ordered_24 (by decide) ?_
      refine j_iadd C0 dX7_ordered_28 ?_
      refine j_istore_n C0 (L' := [(0, .ref (ad 0)), (1, .int ((v4 + (1 : Int32)))), (2, .int (nI j4))]) dX7_ordered_29 (by decide) rfl ?_
      refine j_iinc C0 (v := nI (j4 + 1)) (L' := [(0, .ref (ad 0)), (1, .int ((v4 + (1 : Int32)))), (2, .int (nI (j4 + 1)))]) dX7_ordered_30 rfl (nI_inc j4) (by decide) rfl ?_
      refine j_goto C0 4 dX7_ordered_33 (by decide) ?_
      rw [bX7_ordered_4, if_neg q2] at K4
      exact K4
  ·
    show J p l e _ s m args below meth c A 3 _ (OV D Y A ad (F 0) (F 1) (F 5) (F 18) (F 19) (F 20) (G 2) (G 3) (G 4) (G 6) (G 7) (G 8) (G 9) (G 10) (G 11) (G 12) (G 13) (G 14) (G 15) (G 16) (G 17) (G 21) (G 22) (G 23) (G 24) (G 25)) 0 0 4 [(0, .ref (ad 0)), (1, .int ((nf (bX7_ordered_4 F G) ((0 : Int32)) ((F 5).toNatClampNeg)))), (2, .int (nI (((F 5).toNatClampNeg))))] []
    refine j_iload_n C0 dX7_ordered_4 rfl ?_
    refine j_aload_n C0 dX7_ordered_5 rfl ?_
    refine r_gf_5 C0 (v := (F 5)) dX7_ordered_6 rfl ?_
    refine j_icmp_ge C0 36 dX7_ordered_9 (by decide) (fun _ => ?_) (fun z => absurd (cl_le rfl) z)
    refine j_iload_n C0 dX7_ordered_36 rfl ?_
    exact j_iretE C0 rfl (by rw [vX7_ordered]) dX7_ordered_37 (fun H h => h)
/-! ## isAhead(II)Z -/
def vX7_isAhead (F : Nat → Int32) (G : Nat → Nat → Int32) (a1 : Int32) (a2 : Int32) : Int32 := (if ((G 8) (a1).toNatClampNeg) = ((G 8) (a2).toNatClampNeg) then (if ((G 11) (a1).toNatClampNeg) < ((G 11) (a2).toNatClampNeg) then (1 : Int32) else (if ((G 11) (a1).toNatClampNeg) = ((G 11) (a2).toNatClampNeg) then (if a2 ≤ a1 then (0 : Int32) else (1 : Int32)) else (0 : Int32))) else (if ((G 8) (a1).toNatClampNeg) ≤ ((G 8) (a2).toNatClampNeg) then (0 : Int32) else (1 : Int32)))
set_option maxRecDepth 100000 in
set_option maxHeartbeats 4000000 in
theorem k_X7_isAhead {l : Launch} (hl : l.stackTraces = false) {D : va_G} {Y : Nat → ClassId} {A : Nat → Prop} {E : State → Prop} (ad : Nat → Nat) (F : Nat → Int32) (G : Nat → Nat → Int32) (a1 : Int32) (a2 : Int32) (h1 : vp_in a1 30) (h2 : vp_in a2 30) : KM l yX7_isAhead cX7_isAhead 3 (some .boolean) D Y A E 0 0 0 0 [.ref (ad 0), .int (a1), .int (a2)] (OR D Y A ad F G) (some (.int (vX7_isAhead F G a1 a2))) (OR D Y A ad F G) := by
  refine KM_of RX7 [(0, .ref (ad 0)), (1, .int (a1)), (2, .int (a2))] rfl (by decide) hl (Nat.le_of_ble_eq_true rfl) rfl (lok_of rfl rfl) ?_
  intro p e s m args below meth c C0
  refine j_aload_n C0 dX7_isAhead_0 rfl ?_
  refine r_gf_8 C0 dX7_isAhead_1 ?_
  refine j_iload_n C0 dX7_isAhead_4 rfl ?_
  refine r_ld_8 C0 (v := ((G 8) (a1).toNatClampNeg)) h1 dX7_isAhead_5 rfl ?_
  refine j_aload_n C0 dX7_isAhead_6 rfl ?_
  refine r_gf_8 C0 dX7_isAhead_7 ?_
  refine j_iload_n C0 dX7_isAhead_10 rfl ?_
  refine r_ld_8 C0 (v := ((G 8) (a2).toNatClampNeg)) h2 dX7_isAhead_11 rfl ?_
  refine j_icmp_eq C0 36 dX7_isAhead_12 (by decide) (fun (q1 : ((G 8) (a1).toNatClampNeg) = ((G 8) (a2).toNatClampNeg)) => ?_) (fun (q1 : ¬ (((G 8) (a1).toNatClampNeg) = ((G 8) (a2).toNatClampNeg))) => ?_)
  ·
    refine j_aload_n C0 dX7_isAhead_36 rfl ?_
    refine r_gf_11 C0 dX7_isAhead_37 ?_
    refine j_iload_n C0 dX7_isAhead_40 rfl ?_
    refine r_ld_11 C0 (v := ((G 11) (a1).toNatClampNeg)) h1 dX7_isAhead_41 rfl ?_
    refine j_aload_n C0 dX7_isAhead_42 rfl ?_
    refine r_gf_11 C0 dX7_isAhead_43 ?_
    refine j_iload_n C0 dX7_isAhead_46 rfl ?_
    refine r_ld_11 C0 (v := ((G 11) (a2).toNatClampNeg)) h2 dX7_isAhead_47 rfl ?_
    refine j_icmp_lt C0 71 dX7_isAhead_48 (by decide) (fun (q2 : ((G 11) (a1).toNatClampNeg) < ((G 11) (a2).toNatClampNeg)) => ?_) (fun (q2 : ¬ (((G 11) (a1).toNatClampNeg) < ((G 11) (a2).toNatClampNeg))) => ?_)
    ·
      refine j_iconst C0 (v := 1) dX7_isAhead_71 (by decide) ?_
      refine j_goto C0 76 dX7_isAhead_72 (by decide) ?_
      exact j_zretE C0 rfl (by rw [vX7_isAhead, if_pos q1, if_pos q2]) (by decide) dX7_isAhead_76 (fun H h => h)
    ·
      refine j_aload_n C0 dX7_isAhead_51 rfl ?_
      refine r_gf_11 C0 dX7_isAhead_52 ?_
      refine j_iload_n C0 dX7_isAhead_55 rfl ?_
      refine r_ld_11 C0 (v := ((G 11) (a1).toNatClampNeg)) h1 dX7_isAhead_56 rfl ?_
      refine j_aload_n C0 dX7_isAhead_57 rfl ?_
      refine r_gf_11 C0 dX7_isAhead_58 ?_
      refine j_iload_n C0 dX7_isAhead_61 rfl ?_
      refine r_ld_11 C0 (v := ((G 11) (a2).toNatClampNeg)) h2 dX7_isAhead_62 rfl ?_
      refine j_icmp_ne C0 75 dX7_isAhead_63 (by decide) (fun (q3 : ¬ (((G 11) (a1).toNatClampNeg) = ((G 11) (a2).toNatClampNeg))) => ?_) (fun (q3 : ((G 11) (a1).toNatClampNeg) = ((G 11) (a2).toNatClampNeg)) => ?_)
      ·
        refine j_iconst C0 (v := 0) dX7_isAhead_75 (by decide) ?_
        exact j_zretE C0 rfl (by rw [vX7_isAhead, if_pos q1, if_neg q2, if_neg q3]) (by decide) dX7_isAhead_76 (fun H h => h)
      ·
        refine j_iload_n C0 dX7_isAhead_66 rfl ?_
        refine j_iload_n C0 dX7_isAhead_67 rfl ?_
        refine j_icmp_ge C0 75 dX7_isAhead_68 (by decide) (fun (q4 : a2 ≤ a1) => ?_) (fun (q4 : ¬ (a2 ≤ a1)) => ?_)
        ·
          refine j_iconst C0 (v := 0) dX7_isAhead_75 (by decide) ?_
          exact j_zretE C0 rfl (by rw [vX7_isAhead, if_pos q1, if_neg q2, if_pos q3, if_pos q4]) (by decide) dX7_isAhead_76 (fun H h => h)
        ·
          refine j_iconst C0 (v := 1) dX7_isAhead_71 (by decide) ?_
          refine j_goto C0 76 dX7_isAhead_72 (by decide) ?_
          exact j_zretE C0 rfl (by rw [vX7_isAhead, if_pos q1, if_neg q2, if_pos q3, if_neg q4]) (by decide) dX7_isAhead_76 (fun H h => h)
  ·
    refine j_aload_n C0 dX7_isAhead_15 rfl ?_
    refine r_gf_8 C0 dX7_isAhead_16 ?_
    refine j_iload_n C0 dX7_isAhead_19 rfl ?_
    refine r_ld_8 C0 (v := ((G 8) (a1).toNatClampNeg)) h1 dX7_isAhead_20 rfl ?_
    refine j_aload_n C0 dX7_isAhead_21 rfl ?_
    refine r_gf_8 C0 dX7_isAhead_22 ?_
    refine j_iload_n C0 dX7_isAhead_25 rfl ?_
    refine r_ld_8 C0 (v := ((G 8) (a2).toNatClampNeg)) h2 dX7_isAhead_26 rfl ?_
    refine j_icmp_le C0 34 dX7_isAhead_27 (by decide) (fun (q5 : ((G 8) (a1).toNatClampNeg) ≤ ((G 8) (a2).toNatClampNeg)) => ?_) (fun (q5 : ¬ (((G 8) (a1).toNatClampNeg) ≤ ((G 8) (a2).toNatClampNeg))) => ?_)
    ·
      refine j_iconst C0 (v := 0) dX7_isAhead_34 (by decide) ?_
      exact j_zretE C0 rfl (by rw [vX7_isAhead, if_neg q1, if_pos q5]) (by decide) dX7_isAhead_35 (fun H h => h)
    ·
      refine j_iconst C0 (v := 1) dX7_isAhead_30 (by decide) ?_
      refine j_goto C0 35 dX7_isAhead_31 (by decide) ?_
      exact j_zretE C0 rfl (by rw [vX7_isAhead, if_neg q1, if_neg q5]) (by decide) dX7_isAhead_35 (fun H h => h)
theorem z_X7_isAhead : ∀ F G a1 a2, vX7_isAhead F G a1 a2 = 0 ∨ vX7_isAhead F G a1 a2 = 1 := by
  intro F G a1 a2
  unfold vX7_isAhead
  repeat' split
  all_goals first | exact Or.inl rfl | exact Or.inr rfl
/-! ## isPilotReady(I)Z -/
def bX7_isPilotReady_7 (F : Nat → Int32) (G : Nat → Nat → Int32) (a1 : Int32) (j7 : Nat) (v7 : Int32 × Int32) : Int32 × Int32 := match v7 with | (v7_0, v7_1) => (if v7_0 = 0 then (if ((G 23) (nI j7).toNatClampNeg) = a1 then (if (6 : Int32) ≤ ((F 1) - ((G 21) (nI j7).toNatClampNeg)) then (if (24 : Int32) ≤ ((F 1) - ((G 21) (nI j7).toNatClampNeg)) then ((0 : Int32), (v7_1 + (0 : Int32))) else ((0 : Int32), (v7_1 + (1 : Int32)))) else (if (24 : Int32) ≤ ((F 1) - ((G 21) (nI j7).toNatClampNeg)) then ((1 : Int32), (v7_1 + (0 : Int32))) else ((1 : Int32), (v7_1 + (1 : Int32))))) else ((0 : Int32), (v7_1 + (0 : Int32)))) else (if ((G 23) (nI j7).toNatClampNeg) = a1 then (if (24 : Int32) ≤ ((F 1) - ((G 21) (nI j7).toNatClampNeg)) then ((1 : Int32), (v7_1 + (0 : Int32))) else ((1 : Int32), (v7_1 + (1 : Int32)))) else ((1 : Int32), (v7_1 + (0 : Int32)))))
def vX7_isPilotReady (F : Nat → Int32) (G : Nat → Nat → Int32) (a1 : Int32) : Int32 := (if (nf (bX7_isPilotReady_7 F G a1) ((0 : Int32), (0 : Int32)) ((F 20).toNatClampNeg)).1 = 0 then (if (3 : Int32) ≤ (nf (bX7_isPilotReady_7 F G a1) ((0 : Int32), (0 : Int32)) ((F 20).toNatClampNeg)).2 then (0 : Int32) else (1 : Int32)) else (0 : Int32))
set_option maxRecDepth 100000 in
set_option maxHeartbeats 4000000 in
theorem k_X7_isPilotReady {l : Launch} (hl : l.stackTraces = false) {D : va_G} {Y : Nat → ClassId} {A : Nat → Prop} {E : State → Prop} (ad : Nat → Nat) (F : Nat → Int32) (G : Nat → Nat → Int32) (a1 : Int32) (hm : ct (F 20) 100) : KM l yX7_isPilotReady cX7_isPilotReady 5 (some .boolean) D Y A E 0 0 0 0 [.ref (ad 0), .int (a1)] (OR D Y A ad F G) (some (.int (vX7_isPilotReady F G a1))) (OR D Y A ad F G) := by
  refine KM_of RX7 [(0, .ref (ad 0)), (1, .int (a1))] rfl (by decide) hl (Nat.le_of_ble_eq_true rfl) rfl (lok_of rfl rfl) ?_
  intro p e s m args below meth c C0
  have hmc := hm.cl (by decide)
  refine j_iconst C0 (v := 0) dX7_isPilotReady_0 (by decide) ?_
  refine j_istore_n C0 (L' := [(0, .ref (ad 0)), (1, .int (a1)), (2, .int ((0 : Int32)))]) dX7_isPilotReady_1 (by decide) rfl ?_
  refine j_iconst C0 (v := 0) dX7_isPilotReady_2 (by decide) ?_
  refine j_istore_n C0 (L' := [(0, .ref (ad 0)), (1, .int (a1)), (2, .int ((0 : Int32))), (3, .int ((0 : Int32)))]) dX7_isPilotReady_3 (by decide) rfl ?_
  refine j_iconst C0 (v := 0) dX7_isPilotReady_4 (by decide) ?_
  refine j_istore C0 (L' := [(0, .ref (ad 0)), (1, .int (a1)), (2, .int ((0 : Int32))), (3, .int ((0 : Int32))), (4, .int ((0 : Int32)))]) dX7_isPilotReady_5 (by decide) rfl ?_
  refine hb_lp (P := fun (j : Nat) (v : Int32 × Int32) => J p l e _ s m args below meth c A 5 _ (OV D Y A ad (F 0) (F 1) (F 5) (F 18) (F 19) (F 20) (G 2) (G 3) (G 4) (G 6) (G 7) (G 8) (G 9) (G 10) (G 11) (G 12) (G 13) (G 14) (G 15) (G 16) (G 17) (G 21) (G 22) (G 23) (G 24) (G 25)) 0 0 7 [(0, .ref (ad 0)), (1, .int (a1)), (2, .int (v.1)), (3, .int (v.2)), (4, .int (nI j))] []) (bX7_isPilotReady_7 F G a1) ((0 : Int32), (0 : Int32)) ((F 20).toNatClampNeg) ?_ ?_
  ·
    intro j7 hj7 K7
    generalize nf (bX7_isPilotReady_7 F G a1) ((0 : Int32), (0 : Int32)) j7 = v7 at K7 ⊢
    obtain ⟨v7_0, v7_1⟩ := v7
    show J p l e _ s m args below meth c A 5 _ (OV D Y A ad (F 0) (F 1) (F 5) (F 18) (F 19) (F 20) (G 2) (G 3) (G 4) (G 6) (G 7) (G 8) (G 9) (G 10) (G 11) (G 12) (G 13) (G 14) (G 15) (G 16) (G 17) (G 21) (G 22) (G 23) (G 24) (G 25)) 0 0 7 [(0, .ref (ad 0)), (1, .int (a1)), (2, .int (v7_0)), (3, .int (v7_1)), (4, .int (nI j7))] []
    replace K7 : J p l e _ s m args below meth c A 5 _ (OV D Y A ad (F 0) (F 1) (F 5) (F 18) (F 19) (F 20) (G 2) (G 3) (G 4) (G 6) (G 7) (G 8) (G 9) (G 10) (G 11) (G 12) (G 13) (G 14) (G 15) (G 16) (G 17) (G 21) (G 22) (G 23) (G 24) (G 25)) 0 0 7 [(0, .ref (ad 0)), (1, .int (a1)), (2, .int ((bX7_isPilotReady_7 F G a1 j7 (v7_0, v7_1)).1)), (3, .int ((bX7_isPilotReady_7 F G a1 j7 (v7_0, v7_1)).2)), (4, .int (nI (j7 + 1)))] [] := K7
    refine j_iload C0 dX7_isPilotReady_7 rfl ?_
    refine j_aload_n C0 dX7_isPilotReady_9 rfl ?_
    refine r_gf_20 C0 (v := (F 20)) dX7_isPilotReady_10 rfl ?_
    refine j_icmp_ge C0 96 dX7_isPilotReady_13 (by decide) (fun z => absurd z (cl_lt rfl hj7)) (fun _ => ?_)
    refine j_iload_n C0 dX7_isPilotReady_16 rfl ?_
    refine j_if_ne C0 48 dX7_isPilotReady_17 (by decide) (fun (q2 : ¬ (v7_0 = 0)) => ?_) (fun (q2 : v7_0 = 0) => ?_)
    ·
      refine j_iconst C0 (v := 1) dX7_isPilotReady_48 (by decide) ?_
      refine j_goto C0 53 dX7_isPilotReady_49 (by decide) ?_
      refine j_istore_n C0 (L' := [(0, .ref (ad 0)), (1, .int (a1)), (2, .int ((1 : Int32))), (3, .int (v7_1)), (4, .int (nI j7))]) dX7_isPilotReady_53 (by decide) rfl ?_
      refine j_iload_n C0 dX7_isPilotReady_54 rfl ?_
      refine j_aload_n C0 dX7_isPilotReady_55 rfl ?_
      refine r_gf_23 C0 dX7_isPilotReady_56 ?_
      refine j_iload C0 dX7_isPilotReady_59 rfl ?_
      refine r_ld_23 C0 (v := ((G 23) (nI j7).toNatClampNeg)) (vp_nI (by omega) (by decide)) dX7_isPilotReady_61 rfl ?_
      refine j_iload_n C0 dX7_isPilotReady_62 rfl ?_
      refine j_icmp_ne C0 87 dX7_isPilotReady_63 (by decide) (fun (q3 : ¬ (((G 23) (nI j7).toNatClampNeg) = a1)) => ?_) (fun (q3 : ((G 23) (nI j7).toNatClampNeg) = a1) => ?_)
      ·
        refine j_iconst C0 (v := 0) dX7_isPilotReady_87 (by decide) ?_
        refine j_iadd C0 dX7_isPilotReady_88 ?_
        refine j_istore_n C0 (L' := [(0, .ref (ad 0)), (1, .int (a1)), (2, .int ((1 : Int32))), (3, .int ((v7_1 + (0 : Int32)))), (4, .int (nI j7))]) dX7_isPilotReady_89 (by decide) rfl ?_
        refine j_iinc C0 (v := nI (j7 + 1)) (L' := [(0, .ref (ad 0)), (1, .int (a1)), (2, .int ((1 : Int32))), (3, .int ((v7_1 + (0 : Int32)))), (4, .int (nI (j7 + 1)))]) dX7_isPilotReady_90 rfl (nI_inc j7) (by decide) rfl ?_
        refine j_goto C0 7 dX7_isPilotReady_93 (by decide) ?_
        rw [bX7_isPilotReady_7, if_neg q2, if_neg q3] at K7
        exact K7
      ·
        refine j_aload_n C0 dX7_isPilotReady_66 rfl ?_
        refine r_gf_1 C0 (v := (F 1)) dX7_isPilotReady_67 rfl ?_
        refine j_aload_n C0 dX7_isPilotReady_70 rfl ?_
        refine r_gf_21 C0 dX7_isPilotReady_71 ?_
        refine j_iload C0 dX7_isPilotReady_74 rfl ?_
        refine r_ld_21 C0 (v := ((G 21) (nI j7).toNatClampNeg)) (vp_nI (by omega) (by decide)) dX7_isPilotReady_76 rfl ?_
        refine j_isub C0 dX7_isPilotReady_77 ?_
        refine j_bipush C0 (v := 24) dX7_isPilotReady_78 (by decide) ?_
        refine j_icmp_ge C0 87 dX7_isPilotReady_80 (by decide) (fun (q4 : (24 : Int32) ≤ ((F 1) - ((G 21) (nI j7).toNatClampNeg))) => ?_) (fun (q4 : ¬ ((24 : Int32) ≤ ((F 1) - ((G 21) (nI j7).toNatClampNeg)))) => ?_)
        ·
          refine j_iconst C0 (v := 0) dX7_isPilotReady_87 (by decide) ?_
          refine j_iadd C0 dX7_isPilotReady_88 ?_
          refine j_istore_n C0 (L' := [(0, .ref (ad 0)), (1, .int (a1)), (2, .int ((1 : Int32))), (3, .int ((v7_1 + (0 : Int32)))), (4, .int (nI j7))]) dX7_isPilotReady_89 (by decide) rfl ?_
          refine j_iinc C0 (v := nI (j7 + 1)) (L' := [(0, .ref (ad 0)), (1, .int (a1)), (2, .int ((1 : Int32))), (3, .int ((v7_1 + (0 : Int32)))), (4, .int (nI (j7 + 1)))]) dX7_isPilotReady_90 rfl (nI_inc j7) (by decide) rfl ?_
          refine j_goto C0 7 dX7_isPilotReady_93 (by decide) ?_
          rw [bX7_isPilotReady_7, if_neg q2, if_pos q3, if_pos q4] at K7
          exact K7
        ·
          refine j_iconst C0 (v := 1) dX7_isPilotReady_83 (by decide) ?_
          refine j_goto C0 88 dX7_isPilotReady_84 (by decide) ?_
          refine j_iadd C0 dX7_isPilotReady_88 ?_
          refine j_istore_n C0 (L' := [(0, .ref (ad 0)), (1, .int (a1)), (2, .int ((1 : Int32))), (3, .int ((v7_1 + (1 : Int32)))), (4, .int (nI j7))]) dX7_isPilotReady_89 (by decide) rfl ?_
          refine j_iinc C0 (v := nI (j7 + 1)) (L' := [(0, .ref (ad 0)), (1, .int (a1)), (2, .int ((1 : Int32))), (3, .int ((v7_1 + (1 : Int32)))), (4, .int (nI (j7 + 1)))]) dX7_isPilotReady_90 rfl (nI_inc j7) (by decide) rfl ?_
          refine j_goto C0 7 dX7_isPilotReady_93 (by decide) ?_
          rw [bX7_isPilotReady_7, if_neg q2, if_pos q3, if_neg q4] at K7
          exact K7
    ·
      refine j_aload_n C0 dX7_isPilotReady_20 rfl ?_
      refine r_gf_23 C0 dX7_isPilotReady_21 ?_
      refine j_iload C0 dX7_isPilotReady_24 rfl ?_
      refine r_ld_23 C0 (v := ((G 23) (nI j7).toNatClampNeg)) (vp_nI (by omega) (by decide)) dX7_isPilotReady_26 rfl ?_
      refine j_iload_n C0 dX7_isPilotReady_27 rfl ?_
      refine j_icmp_ne C0 52 dX7_isPilotReady_28 (by decide) (fun (q5 : ¬ (((G 23) (nI j7).toNatClampNeg) = a1)) => ?_) (fun (q5 : ((G 23) (nI j7).toNatClampNeg) = a1) => ?_)
      ·
        refine j_iconst C0 (v := 0) dX7_isPilotReady_52 (by decide) ?_
        refine j_istore_n C0 (L' := [(0, .ref (ad 0)), (1, .int (a1)), (2, .int ((0 : Int32))), (3, .int (v7_1)), (4, .int (nI j7))]) dX7_isPilotReady_53 (by decide) rfl ?_
        refine j_iload_n C0 dX7_isPilotReady_54 rfl ?_
        refine j_aload_n C0 dX7_isPilotReady_55 rfl ?_
        refine r_gf_23 C0 dX7_isPilotReady_56 ?_
        refine j_iload C0 dX7_isPilotReady_59 rfl ?_
        refine r_ld_23 C0 (v := ((G 23) (nI j7).toNatClampNeg)) (vp_nI (by omega) (by decide)) dX7_isPilotReady_61 rfl ?_
        refine j_iload_n C0 dX7_isPilotReady_62 rfl ?_
        refine j_icmp_ne C0 87 dX7_isPilotReady_63 (by decide) (fun _ => ?_) (fun z => absurd z q5)
        refine j_iconst C0 (v := 0) dX7_isPilotReady_87 (by decide) ?_
        refine j_iadd C0 dX7_isPilotReady_88 ?_
        refine j_istore_n C0 (L' := [(0, .ref (ad 0)), (1, .int (a1)), (2, .int ((0 : Int32))), (3, .int ((v7_1 + (0 : Int32)))), (4, .int (nI j7))]) dX7_isPilotReady_89 (by decide) rfl ?_
        refine j_iinc C0 (v := nI (j7 + 1)) (L' := [(0, .ref (ad 0)), (1, .int (a1)), (2, .int ((0 : Int32))), (3, .int ((v7_1 + (0 : Int32)))), (4, .int (nI (j7 + 1)))]) dX7_isPilotReady_90 rfl (nI_inc j7) (by decide) rfl ?_
        refine j_goto C0 7 dX7_isPilotReady_93 (by decide) ?_
        rw [bX7_isPilotReady_7, if_pos q2, if_neg q5] at K7
        exact K7
      ·
        refine j_aload_n C0 dX7_isPilotReady_31 rfl ?_
        refine r_gf_1 C0 (v := (F 1)) dX7_isPilotReady_32 rfl ?_
        refine j_aload_n C0 dX7_isPilotReady_35 rfl ?_
        refine r_gf_21 C0 dX7_isPilotReady_36 ?_
        refine j_iload C0 dX7_isPilotReady_39 rfl ?_
        refine r_ld_21 C0 (v := ((G 21) (nI j7).toNatClampNeg)) (vp_nI (by omega) (by decide)) dX7_isPilotReady_41 rfl ?_
        refine j_isub C0 dX7_isPilotReady_42 ?_
        refine j_bipush C0 (v := 6) dX7_isPilotReady_43 (by decide) ?_
        refine j_icmp_ge C0 52 dX7_isPilotReady_45 (by decide) (fun (q7 : (6 : Int32) ≤ ((F 1) - ((G 21) (nI j7).toNatClampNeg))) => ?_) (fun (q7 : ¬ ((6 : Int32) ≤ ((F 1) - ((G 21) (nI j7).toNatClampNeg)))) => ?_)
        ·
          refine j_iconst C0 (v := 0) dX7_isPilotReady_52 (by decide) ?_
          refine j_istore_n C0 (L' := [(0, .ref (ad 0)), (1, .int (a1)), (2, .int ((0 : Int32))), (3, .int (v7_1)), (4, .int (nI j7))]) dX7_isPilotReady_53 (by decide) rfl ?_
          refine j_iload_n C0 dX7_isPilotReady_54 rfl ?_
          refine j_aload_n C0 dX7_isPilotReady_55 rfl ?_
          refine r_gf_23 C0 dX7_isPilotReady_56 ?_
          refine j_iload C0 dX7_isPilotReady_59 rfl ?_
          refine r_ld_23 C0 (v := ((G 23) (nI j7).toNatClampNeg)) (vp_nI (by omega) (by decide)) dX7_isPilotReady_61 rfl ?_
          refine j_iload_n C0 dX7_isPilotReady_62 rfl ?_
          refine j_icmp_ne C0 87 dX7_isPilotReady_63 (by decide) (fun z => absurd q5 z) (fun _ => ?_)
          refine j_aload_n C0 dX7_isPilotReady_66 rfl ?_
          refine r_gf_1 C0 (v := (F 1)) dX7_isPilotReady_67 rfl ?_
          refine j_aload_n C0 dX7_isPilotReady_70 rfl ?_
          refine r_gf_21 C0 dX7_isPilotReady_71 ?_
          refine j_iload C0 dX7_isPilotReady_74 rfl ?_
          refine r_ld_21 C0 (v := ((G 21) (nI j7).toNatClampNeg)) (vp_nI (by omega) (by decide)) dX7_isPilotReady_76 rfl ?_
          refine j_isub C0 dX7_isPilotReady_77 ?_
          refine j_bipush C0 (v := 24) dX7_isPilotReady_78 (by decide) ?_
          refine j_icmp_ge C0 87 dX7_isPilotReady_80 (by decide) (fun (q9 : (24 : Int32) ≤ ((F 1) - ((G 21) (nI j7).toNatClampNeg))) => ?_) (fun (q9 : ¬ ((24 : Int32) ≤ ((F 1) - ((G 21) (nI j7).toNatClampNeg)))) => ?_)
          ·
            refine j_iconst C0 (v := 0) dX7_isPilotReady_87 (by decide) ?_
            refine j_iadd C0 dX7_isPilotReady_88 ?_
            refine j_istore_n C0 (L' := [(0, .ref (ad 0)), (1, .int (a1)), (2, .int ((0 : Int32))), (3, .int ((v7_1 + (0 : Int32)))), (4, .int (nI j7))]) dX7_isPilotReady_89 (by decide) rfl ?_
            refine j_iinc C0 (v := nI (j7 + 1)) (L' := [(0, .ref (ad 0)), (1, .int (a1)), (2, .int ((0 : Int32))), (3, .int ((v7_1 + (0 : Int32)))), (4, .int (nI (j7 + 1)))]) dX7_isPilotReady_90 rfl (nI_inc j7) (by decide) rfl ?_
            refine j_goto C0 7 dX7_isPilotReady_93 (by decide) ?_
            rw [bX7_isPilotReady_7, if_pos q2, if_pos q5, if_pos q7, if_pos q9] at K7
            exact K7
          ·
            refine j_iconst C0 (v := 1) dX7_isPilotReady_83 (by decide) ?_
            refine j_goto C0 88 dX7_isPilotReady_84 (by decide) ?_
            refine j_iadd C0 dX7_isPilotReady_88 ?_
            refine j_istore_n C0 (L' := [(0, .ref (ad 0)), (1, .int (a1)), (2, .int ((0 : Int32))), (3, .int ((v7_1 + (1 : Int32)))), (4, .int (nI j7))]) dX7_isPilotReady_89 (by decide) rfl ?_
            refine j_iinc C0 (v := nI (j7 + 1)) (L' := [(0, .ref (ad 0)), (1, .int (a1)), (2, .int ((0 : Int32))), (3, .int ((v7_1 + (1 : Int32)))), (4, .int (nI (j7 + 1)))]) dX7_isPilotReady_90 rfl (nI_inc j7) (by decide) rfl ?_
            refine j_goto C0 7 dX7_isPilotReady_93 (by decide) ?_
            rw [bX7_isPilotReady_7, if_pos q2, if_pos q5, if_pos q7, if_neg q9] at K7
            exact K7
        ·
          refine j_iconst C0 (v := 1) dX7_isPilotReady_48 (by decide) ?_
          refine j_goto C0 53 dX7_isPilotReady_49 (by decide) ?_
          refine j_istore_n C0 (L' := [(0, .ref (ad 0)), (1, .int (a1)), (2, .int ((1 : Int32))), (3, .int (v7_1)), (4, .int (nI j7))]) dX7_isPilotReady_53 (by decide) rfl ?_
          refine j_iload_n C0 dX7_isPilotReady_54 rfl ?_
          refine j_aload_n C0 dX7_isPilotReady_55 rfl ?_
          refine r_gf_23 C0 dX7_isPilotReady_56 ?_
          refine j_iload C0 dX7_isPilotReady_59 rfl ?_
          refine r_ld_23 C0 (v := ((G 23) (nI j7).toNatClampNeg)) (vp_nI (by omega) (by decide)) dX7_isPilotReady_61 rfl ?_
          refine j_iload_n C0 dX7_isPilotReady_62 rfl ?_
          refine j_icmp_ne C0 87 dX7_isPilotReady_63 (by decide) (fun z => absurd q5 z) (fun _ => ?_)
          refine j_aload_n C0 dX7_isPilotReady_66 rfl ?_
          refine r_gf_1 C0 (v := (F 1)) dX7_isPilotReady_67 rfl ?_
          refine j_aload_n C0 dX7_isPilotReady_70 rfl ?_
          refine r_gf_21 C0 dX7_isPilotReady_71 ?_
          refine j_iload C0 dX7_isPilotReady_74 rfl ?_
          refine r_ld_21 C0 (v := ((G 21) (nI j7).toNatClampNeg)) (vp_nI (by omega) (by decide)) dX7_isPilotReady_76 rfl ?_
          refine j_isub C0 dX7_isPilotReady_77 ?_
          refine j_bipush C0 (v := 24) dX7_isPilotReady_78 (by decide) ?_
          refine j_icmp_ge C0 87 dX7_isPilotReady_80 (by decide) (fun (q11 : (24 : Int32) ≤ ((F 1) - ((G 21) (nI j7).toNatClampNeg))) => ?_) (fun (q11 : ¬ ((24 : Int32) ≤ ((F 1) - ((G 21) (nI j7).toNatClampNeg)))) => ?_)
          ·
            refine j_iconst C0 (v := 0) dX7_isPilotReady_87 (by decide) ?_
            refine j_iadd C0 dX7_isPilotReady_88 ?_
            refine j_istore_n C0 (L' := [(0, .ref (ad 0)), (1, .int (a1)), (2, .int ((1 : Int32))), (3, .int ((v7_1 + (0 : Int32)))), (4, .int (nI j7))]) dX7_isPilotReady_89 (by decide) rfl ?_
            refine j_iinc C0 (v := nI (j7 + 1)) (L' := [(0, .ref (ad 0)), (1, .int (a1)), (2, .int ((1 : Int32))), (3, .int ((v7_1 + (0 : Int32)))), (4, .int (nI (j7 + 1)))]) dX7_isPilotReady_90 rfl (nI_inc j7) (by decide) rfl ?_
            refine j_goto C0 7 dX7_isPilotReady_93 (by decide) ?_
            rw [bX7_isPilotReady_7, if_pos q2, if_pos q5, if_neg q7, if_pos q11] at K7
            exact K7
          ·
            refine j_iconst C0 (v := 1) dX7_isPilotReady_83 (by decide) ?_
            refine j_goto C0 88 dX7_isPilotReady_84 (by decide) ?_
            refine j_iadd C0 dX7_isPilotReady_88 ?_
            refine j_istore_n C0 (L' := [(0, .ref (ad 0)), (1, .int (a1)), (2, .int ((1 : Int32))), (3, .int ((v7_1 + (1 : Int32)))), (4, .int (nI j7))]) dX7_isPilotReady_89 (by decide) rfl ?_
            refine j_iinc C0 (v := nI (j7 + 1)) (L' := [(0, .ref (ad 0)), (1, .int (a1)), (2, .int ((1 : Int32))), (3, .int ((v7_1 + (1 : Int32)))), (4, .int (nI (j7 + 1)))]) dX7_isPilotReady_90 rfl (nI_inc j7) (by decide) rfl ?_
            refine j_goto C0 7 dX7_isPilotReady_93 (by decide) ?_
            rw [bX7_isPilotReady_7, if_pos q2, if_pos q5, if_neg q7, if_neg q11] at K7
            exact K7
  ·
    show J p l e _ s m args below meth c A 5 _ (OV D Y A ad (F 0) (F 1) (F 5) (F 18) (F 19) (F 20) (G 2) (G 3) (G 4) (G 6) (G 7) (G 8) (G 9) (G 10) (G 11) (G 12) (G 13) (G 14) (G 15) (G 16) (G 17) (G 21) (G 22) (G 23) (G 24) (G 25)) 0 0 7 [(0, .ref (ad 0)), (1, .int (a1)), (2, .int ((nf (bX7_isPilotReady_7 F G a1) ((0 : Int32), (0 : Int32)) ((F 20).toNatClampNeg)).1)), (3, .int ((nf (bX7_isPilotReady_7 F G a1) ((0 : Int32), (0 : Int32)) ((F 20).toNatClampNeg)).2)), (4, .int (nI (((F 20).toNatClampNeg))))] []
    refine j_iload C0 dX7_isPilotReady_7 rfl ?_
    refine j_aload_n C0 dX7_isPilotReady_9 rfl ?_
    refine r_gf_20 C0 (v := (F 20)) dX7_isPilotReady_10 rfl ?_
    refine j_icmp_ge C0 96 dX7_isPilotReady_13 (by decide) (fun _ => ?_) (fun z => absurd (cl_le rfl) z)
    refine j_iload_n C0 dX7_isPilotReady_96 rfl ?_
    refine j_if_ne C0 109 dX7_isPilotReady_97 (by decide) (fun (q13 : ¬ ((nf (bX7_isPilotReady_7 F G a1) ((0 : Int32), (0 : Int32)) ((F 20).toNatClampNeg)).1 = 0)) => ?_) (fun (q13 : (nf (bX7_isPilotReady_7 F G a1) ((0 : Int32), (0 : Int32)) ((F 20).toNatClampNeg)).1 = 0) => ?_)
    ·
      refine j_iconst C0 (v := 0) dX7_isPilotReady_109 (by decide) ?_
      exact j_zretE C0 rfl (by rw [vX7_isPilotReady, if_neg q13]) (by decide) dX7_isPilotReady_110 (fun H h => h)
    ·
      refine j_iload_n C0 dX7_isPilotReady_100 rfl ?_
      refine j_iconst C0 (v := 3) dX7_isPilotReady_101 (by decide) ?_
      refine j_icmp_ge C0 109 dX7_isPilotReady_102 (by decide) (fun (q14 : (3 : Int32) ≤ (nf (bX7_isPilotReady_7 F G a1) ((0 : Int32), (0 : Int32)) ((F 20).toNatClampNeg)).2) => ?_) (fun (q14 : ¬ ((3 : Int32) ≤ (nf (bX7_isPilotReady_7 F G a1) ((0 : Int32), (0 : Int32)) ((F 20).toNatClampNeg)).2)) => ?_)
      ·
        refine j_iconst C0 (v := 0) dX7_isPilotReady_109 (by decide) ?_
        exact j_zretE C0 rfl (by rw [vX7_isPilotReady, if_pos q13, if_pos q14]) (by decide) dX7_isPilotReady_110 (fun H h => h)
      ·
        refine j_iconst C0 (v := 1) dX7_isPilotReady_105 (by decide) ?_
        refine j_goto C0 110 dX7_isPilotReady_106 (by decide) ?_
        exact j_zretE C0 rfl (by rw [vX7_isPilotReady, if_pos q13, if_neg q14]) (by decide) dX7_isPilotReady_110 (fun H h => h)
theorem z_X7_isPilotReady : ∀ F G a1, vX7_isPilotReady F G a1 = 0 ∨ vX7_isPilotReady F G a1 = 1 := by
  intro F G a1
  unfold vX7_isPilotReady
  repeat' split
  all_goals first | exact Or.inl rfl | exact Or.inr rfl
/-! ## tugsNow()I -/
def bX7_tugsNow_33 (F : Nat → Int32) (G : Nat → Nat → Int32) (j4 : Nat) (v4 : Int32) (j33 : Nat) (v33 : Int32) : Int32 := (if v33 = 0 then ((0 : Int32)) else (if ((((G 24) (nI j33).toNatClampNeg) >>> (nI j4 &&& 31)) &&& (1 : Int32)) = 0 then ((1 : Int32)) else (if ((F 1) - ((G 21) (nI j33).toNatClampNeg)) < (3 : Int32) then ((0 : Int32)) else ((1 : Int32)))))
def bX7_tugsNow_4 (F : Nat → Int32) (G : Nat → Nat → Int32) (j4 : Nat) (v4 : Int32) : Int32 := (if ((((F 1) / (8 : Int32)) + nI j4) - (((F 1) / (8 : Int32)) + nI j4) / (3 : Int32) * (3 : Int32)) = 0 then (if (nf (bX7_tugsNow_33 F G j4 v4) ((0 : Int32)) ((F 20).toNatClampNeg)) = 0 then ((v4 ||| (0 : Int32))) else ((v4 ||| ((1 : Int32) <<< (nI j4 &&& 31))))) else (if (nf (bX7_tugsNow_33 F G j4 v4) ((1 : Int32)) ((F 20).toNatClampNeg)) = 0 then ((v4 ||| (0 : Int32))) else ((v4 ||| ((1 : Int32) <<< (nI j4 &&& 31))))))
def vX7_tugsNow (F : Nat → Int32) (G : Nat → Nat → Int32) : Int32 := (nf (bX7_tugsNow_4 F G) ((0 : Int32)) (6))
set_option maxRecDepth 100000 in
set_option maxHeartbeats 4000000 in
theorem k_X7_tugsNow {l : Launch} (hl : l.stackTraces = false) {D : va_G} {Y : Nat → ClassId} {A : Nat → Prop} {E : State → Prop} (ad : Nat → Nat) (F : Nat → Int32) (G : Nat → Nat → Int32)  (hm : ct (F 20) 100) : KM l yX7_tugsNow cX7_tugsNow 5 (some .int) D Y A E 0 0 0 0 [.ref (ad 0)] (OR D Y A ad F G) (some (.int (vX7_tugsNow F G))) (OR D Y A ad F G) := by
  refine KM_of RX7 [(0, .ref (ad 0))] rfl (by decide) hl (Nat.le_of_ble_eq_true rfl) rfl (lok_of rfl rfl) ?_
  intro p e s m args below meth c C0
  have hmc := hm.cl (by decide)
  refine j_iconst C0 (v := 0) dX7_tugsNow_0 (by decide) ?_
  refine j_istore_n C0 (L' := [(0, .ref (ad 0)), (1, .int ((0 : Int32)))]) dX7_tugsNow_1 (by decide) rfl ?_
  refine j_iconst C0 (v := 0) dX7_tugsNow_2 (by decide) ?_
  refine j_istore_n C0 (L' := [(0, .ref (ad 0)), (1, .int ((0 : Int32))), (2, .int ((0 : Int32)))]) dX7_tugsNow_3 (by decide) rfl ?_
  refine hb_lp (P := fun (j : Nat) (v : Int32) => J p l e _ s m args below meth c A 5 _ (OV D Y A ad (F 0) (F 1) (F 5) (F 18) (F 19) (F 20) (G 2) (G 3) (G 4) (G 6) (G 7) (G 8) (G 9) (G 10) (G 11) (G 12) (G 13) (G 14) (G 15) (G 16) (G 17) (G 21) (G 22) (G 23) (G 24) (G 25)) 0 0 4 [(0, .ref (ad 0)), (1, .int (v)), (2, .int (nI j))] []) (bX7_tugsNow_4 F G) ((0 : Int32)) (6) ?_ ?_
  ·
    intro j4 hj4 K4
    generalize nf (bX7_tugsNow_4 F G) ((0 : Int32)) j4 = v4 at K4 ⊢
    show J p l e _ s m args below meth c A 5 _ (OV D Y A ad (F 0) (F 1) (F 5) (F 18) (F 19) (F 20) (G 2) (G 3) (G 4) (G 6) (G 7) (G 8) (G 9) (G 10) (G 11) (G 12) (G 13) (G 14) (G 15) (G 16) (G 17) (G 21) (G 22) (G 23) (G 24) (G 25)) 0 0 4 [(0, .ref (ad 0)), (1, .int (v4)), (2, .int (nI j4))] []
    replace K4 : J p l e _ s m args below meth c A 5 _ (OV D Y A ad (F 0) (F 1) (F 5) (F 18) (F 19) (F 20) (G 2) (G 3) (G 4) (G 6) (G 7) (G 8) (G 9) (G 10) (G 11) (G 12) (G 13) (G 14) (G 15) (G 16) (G 17) (G 21) (G 22) (G 23) (G 24) (G 25)) 0 0 4 [(0, .ref (ad 0)), (1, .int ((bX7_tugsNow_4 F G j4 v4))), (2, .int (nI (j4 + 1)))] [] := K4
    refine j_iload_n C0 dX7_tugsNow_4 rfl ?_
    refine j_bipush C0 (v := 6) dX7_tugsNow_5 (by decide) ?_
    refine j_icmp_ge C0 108 dX7_tugsNow_7 (by decide) (fun z => absurd z (cl_lt (show (6 : Int32).toNatClampNeg = 6 by decide +kernel) hj4)) (fun _ => ?_)
    refine j_aload_n C0 dX7_tugsNow_10 rfl ?_
    refine r_gf_1 C0 (v := (F 1)) dX7_tugsNow_11 rfl ?_
    refine j_bipush C0 (v := 8) dX7_tugsNow_14 (by decide) ?_
    refine j_idiv C0 dX7_tugsNow_16 (by decide) ?_
    refine j_iload_n C0 dX7_tugsNow_17 rfl ?_
    refine j_iadd C0 dX7_tugsNow_18 ?_
    refine j_iconst C0 (v := 3) dX7_tugsNow_19 (by decide) ?_
    refine j_irem C0 dX7_tugsNow_20 (by decide) ?_
    refine j_if_eq C0 28 dX7_tugsNow_21 (by decide) (fun (q2 : ((((F 1) / (8 : Int32)) + nI j4) - (((F 1) / (8 : Int32)) + nI j4) / (3 : Int32) * (3 : Int32)) = 0) => ?_) (fun (q2 : ¬ (((((F 1) / (8 : Int32)) + nI j4) - (((F 1) / (8 : Int32)) + nI j4) / (3 : Int32) * (3 : Int32)) = 0)) => ?_)
    ·
      refine j_iconst C0 (v := 0) dX7_tugsNow_28 (by decide) ?_
      refine j_istore_n C0 (L' := [(0, .ref (ad 0)), (1, .int (v4)), (2, .int (nI j4)), (3, .int ((0 : Int32)))]) dX7_tugsNow_29 (by decide) rfl ?_
      refine j_iconst C0 (v := 0) dX7_tugsNow_30 (by decide) ?_
      refine j_istore C0 (L' := [(0, .ref (ad 0)), (1, .int (v4)), (2, .int (nI j4)), (3, .int ((0 : Int32))), (4, .int ((0 : Int32)))]) dX7_tugsNow_31 (by decide) rfl ?_
      refine hb_lp (P := fun (j : Nat) (v : Int32) => J p l e _ s m args below meth c A 5 _ (OV D Y A ad (F 0) (F 1) (F 5) (F 18) (F 19) (F 20) (G 2) (G 3) (G 4) (G 6) (G 7) (G 8) (G 9) (G 10) (G 11) (G 12) (G 13) (G 14) (G 15) (G 16) (G 17) (G 21) (G 22) (G 23) (G 24) (G 25)) 0 0 33 [(0, .ref (ad 0)), (1, .int (v4)), (2, .int (nI j4)), (3, .int (v)), (4, .int (nI j))] []) (bX7_tugsNow_33 F G j4 v4) ((0 : Int32)) ((F 20).toNatClampNeg) ?_ ?_
      ·
        intro j33 hj33 K33
        generalize nf (bX7_tugsNow_33 F G j4 v4) ((0 : Int32)) j33 = v33 at K33 ⊢
        show J p l e _ s m args below meth c A 5 _ (OV D Y A ad (F 0) (F 1) (F 5) (F 18) (F 19) (F 20) (G 2) (G 3) (G 4) (G 6) (G 7) (G 8) (G 9) (G 10) (G 11) (G 12) (G 13) (G 14) (G 15) (G 16) (G 17) (G 21) (G 22) (G 23) (G 24) (G 25)) 0 0 33 [(0, .ref (ad 0)), (1, .int (v4)), (2, .int (nI j4)), (3, .int (v33)), (4, .int (nI j33))] []
        replace K33 : J p l e _ s m args below meth c A 5 _ (OV D Y A ad (F 0) (F 1) (F 5) (F 18) (F 19) (F 20) (G 2) (G 3) (G 4) (G 6) (G 7) (G 8) (G 9) (G 10) (G 11) (G 12) (G 13) (G 14) (G 15) (G 16) (G 17) (G 21) (G 22) (G 23) (G 24) (G 25)) 0 0 33 [(0, .ref (ad 0)), (1, .int (v4)), (2, .int (nI j4)), (3, .int ((bX7_tugsNow_33 F G j4 v4 j33 v33))), (4, .int (nI (j33 + 1)))] [] := K33
        refine j_iload C0 dX7_tugsNow_33 rfl ?_
        refine j_aload_n C0 dX7_tugsNow_35 rfl ?_
        refine r_gf_20 C0 (v := (F 20)) dX7_tugsNow_36 rfl ?_
        refine j_icmp_ge C0 88 dX7_tugsNow_39 (by decide) (fun z => absurd z (cl_lt rfl hj33)) (fun _ => ?_)
        refine j_iload_n C0 dX7_tugsNow_42 rfl ?_
        refine j_if_eq C0 80 dX7_tugsNow_43 (by decide) (fun (q4 : v33 = 0) => ?_) (fun (q4 : ¬ (v33 = 0)) => ?_)
        ·
          refine j_iconst C0 (v := 0) dX7_tugsNow_80 (by decide) ?_
          refine j_istore_n C0 (L' := [(0, .ref (ad 0)), (1, .int (v4)), (2, .int (nI j4)), (3, .int ((0 : Int32))), (4, .int (nI j33))]) dX7_tugsNow_81 (by decide) rfl ?_
          refine j_iinc C0 (v := nI (j33 + 1)) (L' := [(0, .ref (ad 0)), (1, .int (v4)), (2, .int (nI j4)), (3, .int ((0 : Int32))), (4, .int (nI (j33 + 1)))]) dX7_tugsNow_82 rfl (nI_inc j33) (by decide) rfl ?_
          refine j_goto C0 33 dX7_tugsNow_85 (by decide) ?_
          rw [bX7_tugsNow_33, if_pos q4] at K33
          exact K33
        ·
          refine j_aload_n C0 dX7_tugsNow_46 rfl ?_
          refine r_gf_24 C0 dX7_tugsNow_47 ?_
          refine j_iload C0 dX7_tugsNow_50 rfl ?_
          refine r_ld_24 C0 (v := ((G 24) (nI j33).toNatClampNeg)) (vp_nI (by omega) (by decide)) dX7_tugsNow_52 rfl ?_
          refine j_iload_n C0 dX7_tugsNow_53 rfl ?_
          refine j_ishr C0 dX7_tugsNow_54 ?_
          refine j_iconst C0 (v := 1) dX7_tugsNow_55 (by decide) ?_
          refine j_iand C0 dX7_tugsNow_56 ?_
          refine j_if_eq C0 76 dX7_tugsNow_57 (by decide) (fun (q5 : ((((G 24) (nI j33).toNatClampNeg) >>> (nI j4 &&& 31)) &&& (1 : Int32)) = 0) => ?_) (fun (q5 : ¬ (((((G 24) (nI j33).toNatClampNeg) >>> (nI j4 &&& 31)) &&& (1 : Int32)) = 0)) => ?_)
          ·
            refine j_iconst C0 (v := 1) dX7_tugsNow_76 (by decide) ?_
            refine j_goto C0 81 dX7_tugsNow_77 (by decide) ?_
            refine j_istore_n C0 (L' := [(0, .ref (ad 0)), (1, .int (v4)), (2, .int (nI j4)), (3, .int ((1 : Int32))), (4, .int (nI j33))]) dX7_tugsNow_81 (by decide) rfl ?_
            refine j_iinc C0 (v := nI (j33 + 1)) (L' := [(0, .ref (ad 0)), (1, .int (v4)), (2, .int (nI j4)), (3, .int ((1 : Int32))), (4, .int (nI (j33 + 1)))]) dX7_tugsNow_82 rfl (nI_inc j33) (by decide) rfl ?_
            refine j_goto C0 33 dX7_tugsNow_85 (by decide) ?_
            rw [bX7_tugsNow_33, if_neg q4, if_pos q5] at K33
            exact K33
          ·
            refine j_aload_n C0 dX7_tugsNow_60 rfl ?_
            refine r_gf_1 C0 (v := (F 1)) dX7_tugsNow_61 rfl ?_
            refine j_aload_n C0 dX7_tugsNow_64 rfl ?_
            refine r_gf_21 C0 dX7_tugsNow_65 ?_
            refine j_iload C0 dX7_tugsNow_68 rfl ?_
            refine r_ld_21 C0 (v := ((G 21) (nI j33).toNatClampNeg)) (vp_nI (by omega) (by decide)) dX7_tugsNow_70 rfl ?_
            refine j_isub C0 dX7_tugsNow_71 ?_
            refine j_iconst C0 (v := 3) dX7_tugsNow_72 (by decide) ?_
            refine j_icmp_lt C0 80 dX7_tugsNow_73 (by decide) (fun (q6 : ((F 1) - ((G 21) (nI j33).toNatClampNeg)) < (3 : Int32)) => ?_) (fun (q6 : ¬ (((F 1) - ((G 21) (nI j33).toNatClampNeg)) < (3 : Int32))) => ?_)
            ·
              refine j_iconst C0 (v := 0) dX7_tugsNow_80 (by decide) ?_
              refine j_istore_n C0 (L' := [(0, .ref (ad 0)), (1, .int (v4)), (2, .int (nI j4)), (3, .int ((0 : Int32))), (4, .int (nI j33))]) dX7_tugsNow_81 (by decide) rfl ?_
              refine j_iinc C0 (v := nI (j33 + 1)) (L' := [(0, .ref (ad 0)), (1, .int (v4)), (2, .int (nI j4)), (3, .int ((0 : Int32))), (4, .int (nI (j33 + 1)))]) dX7_tugsNow_82 rfl (nI_inc j33) (by decide) rfl ?_
              refine j_goto C0 33 dX7_tugsNow_85 (by decide) ?_
              rw [bX7_tugsNow_33, if_neg q4, if_neg q5, if_pos q6] at K33
              exact K33
            ·
              refine j_iconst C0 (v := 1) dX7_tugsNow_76 (by decide) ?_
              refine j_goto C0 81 dX7_tugsNow_77 (by decide) ?_
              refine j_istore_n C0 (L' := [(0, .ref (ad 0)), (1, .int (v4)), (2, .int (nI j4)), (3, .int ((1 : Int32))), (4, .int (nI j33))]) dX7_tugsNow_81 (by decide) rfl ?_
              refine j_iinc C0 (v := nI (j33 + 1)) (L' := [(0, .ref (ad 0)), (1, .int (v4)), (2, .int (nI j4)), (3, .int ((1 : Int32))), (4, .int (nI (j33 + 1)))]) dX7_tugsNow_82 rfl (nI_inc j33) (by decide) rfl ?_
              refine j_goto C0 33 dX7_tugsNow_85 (by decide) ?_
              rw [bX7_tugsNow_33, if_neg q4, if_neg q5, if_neg q6] at K33
              exact K33
      ·
        show J p l e _ s m args below meth c A 5 _ (OV D Y A ad (F 0) (F 1) (F 5) (F 18) (F 19) (F 20) (G 2) (G 3) (G 4) (G 6) (G 7) (G 8) (G 9) (G 10) (G 11) (G 12) (G 13) (G 14) (G 15) (G 16) (G 17) (G 21) (G 22) (G 23) (G 24) (G 25)) 0 0 33 [(0, .ref (ad 0)), (1, .int (v4)), (2, .int (nI j4)), (3, .int ((nf (bX7_tugsNow_33 F G j4 v4) ((0 : Int32)) ((F 20).toNatClampNeg)))), (4, .int (nI (((F 20).toNatClampNeg))))] []
        refine j_iload C0 dX7_tugsNow_33 rfl ?_
        refine j_aload_n C0 dX7_tugsNow_35 rfl ?_
        refine r_gf_20 C0 (v := (F 20)) dX7_tugsNow_36 rfl ?_
        refine j_icmp_ge C0 88 dX7_tugsNow_39 (by decide) (fun _ => ?_) (fun z => absurd (cl_le rfl) z)
        refine j_iload_n C0 dX7_tugsNow_88 rfl ?_
        refine j_iload_n C0 dX7_tugsNow_89 rfl ?_
        refine j_if_eq C0 99 dX7_tugsNow_90 (by decide) (fun (q8 : (nf (bX7_tugsNow_33 F G j4 v4) ((0 : Int32)) ((F 20).toNatClampNeg)) = 0) => ?_) (fun (q8 : ¬ ((nf (bX7_tugsNow_33 F G j4 v4) ((0 : Int32)) ((F 20).toNatClampNeg)) = 0)) => ?_)
        ·
          refine j_iconst C0 (v := 0) dX7_tugsNow_99 (by decide) ?_
          refine j_ior C0 dX7_tugsNow_100 ?_
          refine j_istore_n C0 (L' := [(0, .ref (ad 0)), (1, .int ((v4 ||| (0 : Int32)))), (2, .int (nI j4)), (3, .int ((nf (bX7_tugsNow_33 F G j4 v4) ((0 : Int32)) ((F 20).toNatClampNeg)))), (4, .int (nI (((F 20).toNatClampNeg))))]) dX7_tugsNow_101 (by decide) rfl ?_
          refine j_iinc C0 (v := nI (j4 + 1)) (L' := [(0, .ref (ad 0)), (1, .int ((v4 ||| (0 : Int32)))), (2, .int (nI (j4 + 1))), (3, .int ((nf (bX7_tugsNow_33 F G j4 v4) ((0 : Int32)) ((F 20).toNatClampNeg)))), (4, .int (nI (((F 20).toNatClampNeg))))]) dX7_tugsNow_102 rfl (nI_inc j4) (by decide) rfl ?_
          refine j_goto C0 4 dX7_tugsNow_105 (by decide) ?_
          rw [bX7_tugsNow_4, if_pos q2, if_pos q8] at K4
          refine j_locals (L' := [(0, .ref (ad 0)), (1, .int ((v4 ||| (0 : Int32)))), (2, .int (nI (j4 + 1)))]) (fun q hq => by simp only [List.mem_cons, List.mem_nil_iff, or_false] at hq ⊢; rcases hq with rfl | rfl | rfl <;> simp) (lok_of rfl rfl) ?_
          exact K4
        ·
          refine j_iconst C0 (v := 1) dX7_tugsNow_93 (by decide) ?_
          refine j_iload_n C0 dX7_tugsNow_94 rfl ?_
          refine j_ishl C0 dX7_tugsNow_95 ?_
          refine j_goto C0 100 dX7_tugsNow_96 (by decide) ?_
          refine j_ior C0 dX7_tugsNow_100 ?_
          refine j_istore_n C0 (L' := [(0, .ref (ad 0)), (1, .int ((v4 ||| ((1 : Int32) <<< (nI j4 &&& 31))))), (2, .int (nI j4)), (3, .int ((nf (bX7_tugsNow_33 F G j4 v4) ((0 : Int32)) ((F 20).toNatClampNeg)))), (4, .int (nI (((F 20).toNatClampNeg))))]) dX7_tugsNow_101 (by decide) rfl ?_
          refine j_iinc C0 (v := nI (j4 + 1)) (L' := [(0, .ref (ad 0)), (1, .int ((v4 ||| ((1 : Int32) <<< (nI j4 &&& 31))))), (2, .int (nI (j4 + 1))), (3, .int ((nf (bX7_tugsNow_33 F G j4 v4) ((0 : Int32)) ((F 20).toNatClampNeg)))), (4, .int (nI (((F 20).toNatClampNeg))))]) dX7_tugsNow_102 rfl (nI_inc j4) (by decide) rfl ?_
          refine j_goto C0 4 dX7_tugsNow_105 (by decide) ?_
          rw [bX7_tugsNow_4, if_pos q2, if_neg q8] at K4
          refine j_locals (L' := [(0, .ref (ad 0)), (1, .int ((v4 ||| ((1 : Int32) <<< (nI j4 &&& 31))))), (2, .int (nI (j4 + 1)))]) (fun q hq => by simp only [List.mem_cons, List.mem_nil_iff, or_false] at hq ⊢; rcases hq with rfl | rfl | rfl <;> simp) (lok_of rfl rfl) ?_
          exact K4
    ·
      refine j_iconst C0 (v := 1) dX7_tugsNow_24 (by decide) ?_
      refine j_goto C0 29 dX7_tugsNow_25 (by decide) ?_
      refine j_istore_n C0 (L' := [(0, .ref (ad 0)), (1, .int (v4)), (2, .int (nI j4)), (3, .int ((1 : Int32)))]) dX7_tugsNow_29 (by decide) rfl ?_
      refine j_iconst C0 (v := 0) dX7_tugsNow_30 (by decide) ?_
      refine j_istore C0 (L' := [(0, .ref (ad 0)), (1, .int (v4)), (2, .int (nI j4)), (3, .int ((1 : Int32))), (4, .int ((0 : Int32)))]) dX7_tugsNow_31 (by decide) rfl ?_
      refine hb_lp (P := fun (j : Nat) (v : Int32) => J p l e _ s m args below meth c A 5 _ (OV D Y A ad (F 0) (F 1) (F 5) (F 18) (F 19) (F 20) (G 2) (G 3) (G 4) (G 6) (G 7) (G 8) (G 9) (G 10) (G 11) (G 12) (G 13) (G 14) (G 15) (G 16) (G 17) (G 21) (G 22) (G 23) (G 24) (G 25)) 0 0 33 [(0, .ref (ad 0)), (1, .int (v4)), (2, .int (nI j4)), (3, .int (v)), (4, .int (nI j))] []) (bX7_tugsNow_33 F G j4 v4) ((1 : Int32)) ((F 20).toNatClampNeg) ?_ ?_
      ·
        intro j33 hj33 K33
        generalize nf (bX7_tugsNow_33 F G j4 v4) ((1 : Int32)) j33 = v33 at K33 ⊢
        show J p l e _ s m args below meth c A 5 _ (OV D Y A ad (F 0) (F 1) (F 5) (F 18) (F 19) (F 20) (G 2) (G 3) (G 4) (G 6) (G 7) (G 8) (G 9) (G 10) (G 11) (G 12) (G 13) (G 14) (G 15) (G 16) (G 17) (G 21) (G 22) (G 23) (G 24) (G 25)) 0 0 33 [(0, .ref (ad 0)), (1, .int (v4)), (2, .int (nI j4)), (3, .int (v33)), (4, .int (nI j33))] []
        replace K33 : J p l e _ s m args below meth c A 5 _ (OV D Y A ad (F 0) (F 1) (F 5) (F 18) (F 19) (F 20) (G 2) (G 3) (G 4) (G 6) (G 7) (G 8) (G 9) (G 10) (G 11) (G 12) (G 13) (G 14) (G 15) (G 16) (G 17) (G 21) (G 22) (G 23) (G 24) (G 25)) 0 0 33 [(0, .ref (ad 0)), (1, .int (v4)), (2, .int (nI j4)), (3, .int ((bX7_tugsNow_33 F G j4 v4 j33 v33))), (4, .int (nI (j33 + 1)))] [] := K33
        refine j_iload C0 dX7_tugsNow_33 rfl ?_
        refine j_aload_n C0 dX7_tugsNow_35 rfl ?_
        refine r_gf_20 C0 (v := (F 20)) dX7_tugsNow_36 rfl ?_
        refine j_icmp_ge C0 88 dX7_tugsNow_39 (by decide) (fun z => absurd z (cl_lt rfl hj33)) (fun _ => ?_)
        refine j_iload_n C0 dX7_tugsNow_42 rfl ?_
        refine j_if_eq C0 80 dX7_tugsNow_43 (by decide) (fun (q10 : v33 = 0) => ?_) (fun (q10 : ¬ (v33 = 0)) => ?_)
        ·
          refine j_iconst C0 (v := 0) dX7_tugsNow_80 (by decide) ?_
          refine j_istore_n C0 (L' := [(0, .ref (ad 0)), (1, .int (v4)), (2, .int (nI j4)), (3, .int ((0 : Int32))), (4, .int (nI j33))]) dX7_tugsNow_81 (by decide) rfl ?_
          refine j_iinc C0 (v := nI (j33 + 1)) (L' := [(0, .ref (ad 0)), (1, .int (v4)), (2, .int (nI j4)), (3, .int ((0 : Int32))), (4, .int (nI (j33 + 1)))]) dX7_tugsNow_82 rfl (nI_inc j33) (by decide) rfl ?_
          refine j_goto C0 33 dX7_tugsNow_85 (by decide) ?_
          rw [bX7_tugsNow_33, if_pos q10] at K33
          exact K33
        ·
          refine j_aload_n C0 dX7_tugsNow_46 rfl ?_
          refine r_gf_24 C0 dX7_tugsNow_47 ?_
          refine j_iload C0 dX7_tugsNow_50 rfl ?_
          refine r_ld_24 C0 (v := ((G 24) (nI j33).toNatClampNeg)) (vp_nI (by omega) (by decide)) dX7_tugsNow_52 rfl ?_
          refine j_iload_n C0 dX7_tugsNow_53 rfl ?_
          refine j_ishr C0 dX7_tugsNow_54 ?_
          refine j_iconst C0 (v := 1) dX7_tugsNow_55 (by decide) ?_
          refine j_iand C0 dX7_tugsNow_56 ?_
          refine j_if_eq C0 76 dX7_tugsNow_57 (by decide) (fun (q11 : ((((G 24) (nI j33).toNatClampNeg) >>> (nI j4 &&& 31)) &&& (1 : Int32)) = 0) => ?_) (fun (q11 : ¬ (((((G 24) (nI j33).toNatClampNeg) >>> (nI j4 &&& 31)) &&& (1 : Int32)) = 0)) => ?_)
          ·
            refine j_iconst C0 (v := 1) dX7_tugsNow_76 (by decide) ?_
            refine j_goto C0 81 dX7_tugsNow_77 (by decide) ?_
            refine j_istore_n C0 (L' := [(0, .ref (ad 0)), (1, .int (v4)), (2, .int (nI j4)), (3, .int ((1 : Int32))), (4, .int (nI j33))]) dX7_tugsNow_81 (by decide) rfl ?_
            refine j_iinc C0 (v := nI (j33 + 1)) (L' := [(0, .ref (ad 0)), (1, .int (v4)), (2, .int (nI j4)), (3, .int ((1 : Int32))), (4, .int (nI (j33 + 1)))]) dX7_tugsNow_82 rfl (nI_inc j33) (by decide) rfl ?_
            refine j_goto C0 33 dX7_tugsNow_85 (by decide) ?_
            rw [bX7_tugsNow_33, if_neg q10, if_pos q11] at K33
            exact K33
          ·
            refine j_aload_n C0 dX7_tugsNow_60 rfl ?_
            refine r_gf_1 C0 (v := (F 1)) dX7_tugsNow_61 rfl ?_
            refine j_aload_n C0 dX7_tugsNow_64 rfl ?_
            refine r_gf_21 C0 dX7_tugsNow_65 ?_
            refine j_iload C0 dX7_tugsNow_68 rfl ?_
            refine r_ld_21 C0 (v := ((G 21) (nI j33).toNatClampNeg)) (vp_nI (by omega) (by decide)) dX7_tugsNow_70 rfl ?_
            refine j_isub C0 dX7_tugsNow_71 ?_
            refine j_iconst C0 (v := 3) dX7_tugsNow_72 (by decide) ?_
            refine j_icmp_lt C0 80 dX7_tugsNow_73 (by decide) (fun (q12 : ((F 1) - ((G 21) (nI j33).toNatClampNeg)) < (3 : Int32)) => ?_) (fun (q12 : ¬ (((F 1) - ((G 21) (nI j33).toNatClampNeg)) < (3 : Int32))) => ?_)
            ·
              refine j_iconst C0 (v := 0) dX7_tugsNow_80 (by decide) ?_
              refine j_istore_n C0 (L' := [(0, .ref (ad 0)), (1, .int (v4)), (2, .int (nI j4)), (3, .int ((0 : Int32))), (4, .int (nI j33))]) dX7_tugsNow_81 (by decide) rfl ?_
              refine j_iinc C0 (v := nI (j33 + 1)) (L' := [(0, .ref (ad 0)), (1, .int (v4)), (2, .int (nI j4)), (3, .int ((0 : Int32))), (4, .int (nI (j33 + 1)))]) dX7_tugsNow_82 rfl (nI_inc j33) (by decide) rfl ?_
              refine j_goto C0 33 dX7_tugsNow_85 (by decide) ?_
              rw [bX7_tugsNow_33, if_neg q10, if_neg q11, if_pos q12] at K33
              exact K33
            ·
              refine j_iconst C0 (v := 1) dX7_tugsNow_76 (by decide) ?_
              refine j_goto C0 81 dX7_tugsNow_77 (by decide) ?_
              refine j_istore_n C0 (L' := [(0, .ref (ad 0)), (1, .int (v4)), (2, .int (nI j4)), (3, .int ((1 : Int32))), (4, .int (nI j33))]) dX7_tugsNow_81 (by decide) rfl ?_
              refine j_iinc C0 (v := nI (j33 + 1)) (L' := [(0, .ref (ad 0)), (1, .int (v4)), (2, .int (nI j4)), (3, .int ((1 : Int32))), (4, .int (nI (j33 + 1)))]) dX7_tugsNow_82 rfl (nI_inc j33) (by decide) rfl ?_
              refine j_goto C0 33 dX7_tugsNow_85 (by decide) ?_
              rw [bX7_tugsNow_33, if_neg q10, if_neg q11, if_neg q12] at K33
              exact K33
      ·
        show J p l e _ s m args below meth c A 5 _ (OV D Y A ad (F 0) (F 1) (F 5) (F 18) (F 19) (F 20) (G 2) (G 3) (G 4) (G 6) (G 7) (G 8) (G 9) (G 10) (G 11) (G 12) (G 13) (G 14) (G 15) (G 16) (G 17) (G 21) (G 22) (G 23) (G 24) (G 25)) 0 0 33 [(0, .ref (ad 0)), (1, .int (v4)), (2, .int (nI j4)), (3, .int ((nf (bX7_tugsNow_33 F G j4 v4) ((1 : Int32)) ((F 20).toNatClampNeg)))), (4, .int (nI (((F 20).toNatClampNeg))))] []
        refine j_iload C0 dX7_tugsNow_33 rfl ?_
        refine j_aload_n C0 dX7_tugsNow_35 rfl ?_
        refine r_gf_20 C0 (v := (F 20)) dX7_tugsNow_36 rfl ?_
        refine j_icmp_ge C0 88 dX7_tugsNow_39 (by decide) (fun _ => ?_) (fun z => absurd (cl_le rfl) z)
        refine j_iload_n C0 dX7_tugsNow_88 rfl ?_
        refine j_iload_n C0 dX7_tugsNow_89 rfl ?_
        refine j_if_eq C0 99 dX7_tugsNow_90 (by decide) (fun (q14 : (nf (bX7_tugsNow_33 F G j4 v4) ((1 : Int32)) ((F 20).toNatClampNeg)) = 0) => ?_) (fun (q14 : ¬ ((nf (bX7_tugsNow_33 F G j4 v4) ((1 : Int32)) ((F 20).toNatClampNeg)) = 0)) => ?_)
        ·
          refine j_iconst C0 (v := 0) dX7_tugsNow_99 (by decide) ?_
          refine j_ior C0 dX7_tugsNow_100 ?_
          refine j_istore_n C0 (L' := [(0, .ref (ad 0)), (1, .int ((v4 ||| (0 : Int32)))), (2, .int (nI j4)), (3, .int ((nf (bX7_tugsNow_33 F G j4 v4) ((1 : Int32)) ((F 20).toNatClampNeg)))), (4, .int (nI (((F 20).toNatClampNeg))))]) dX7_tugsNow_101 (by decide) rfl ?_
          refine j_iinc C0 (v := nI (j4 + 1)) (L' := [(0, .ref (ad 0)), (1, .int ((v4 ||| (0 : Int32)))), (2, .int (nI (j4 + 1))), (3, .int ((nf (bX7_tugsNow_33 F G j4 v4) ((1 : Int32)) ((F 20).toNatClampNeg)))), (4, .int (nI (((F 20).toNatClampNeg))))]) dX7_tugsNow_102 rfl (nI_inc j4) (by decide) rfl ?_
          refine j_goto C0 4 dX7_tugsNow_105 (by decide) ?_
          rw [bX7_tugsNow_4, if_neg q2, if_pos q14] at K4
          refine j_locals (L' := [(0, .ref (ad 0)), (1, .int ((v4 ||| (0 : Int32)))), (2, .int (nI (j4 + 1)))]) (fun q hq => by simp only [List.mem_cons, List.mem_nil_iff, or_false] at hq ⊢; rcases hq with rfl | rfl | rfl <;> simp) (lok_of rfl rfl) ?_
          exact K4
        ·
          refine j_iconst C0 (v := 1) dX7_tugsNow_93 (by decide) ?_
          refine j_iload_n C0 dX7_tugsNow_94 rfl ?_
          refine j_ishl C0 dX7_tugsNow_95 ?_
          refine j_goto C0 100 dX7_tugsNow_96 (by decide) ?_
          refine j_ior C0 dX7_tugsNow_100 ?_
          refine j_istore_n C0 (L' := [(0, .ref (ad 0)), (1, .int ((v4 ||| ((1 : Int32) <<< (nI j4 &&& 31))))), (2, .int (nI j4)), (3, .int ((nf (bX7_tugsNow_33 F G j4 v4) ((1 : Int32)) ((F 20).toNatClampNeg)))), (4, .int (nI (((F 20).toNatClampNeg))))]) dX7_tugsNow_101 (by decide) rfl ?_
          refine j_iinc C0 (v := nI (j4 + 1)) (L' := [(0, .ref (ad 0)), (1, .int ((v4 ||| ((1 : Int32) <<< (nI j4 &&& 31))))), (2, .int (nI (j4 + 1))), (3, .int ((nf (bX7_tugsNow_33 F G j4 v4) ((1 : Int32)) ((F 20).toNatClampNeg)))), (4, .int (nI (((F 20).toNatClampNeg))))]) dX7_tugsNow_102 rfl (nI_inc j4) (by decide) rfl ?_
          refine j_goto C0 4 dX7_tugsNow_105 (by decide) ?_
          rw [bX7_tugsNow_4, if_neg q2, if_neg q14] at K4
          refine j_locals (L' := [(0, .ref (ad 0)), (1, .int ((v4 ||| ((1 : Int32) <<< (nI j4 &&& 31))))), (2, .int (nI (j4 + 1)))]) (fun q hq => by simp only [List.mem_cons, List.mem_nil_iff, or_false] at hq ⊢; rcases hq with rfl | rfl | rfl <;> simp) (lok_of rfl rfl) ?_
          exact K4
  ·
    show J p l e _ s m args below meth c A 5 _ (OV D Y A ad (F 0) (F 1) (F 5) (F 18) (F 19) (F 20) (G 2) (G 3) (G 4) (G 6) (G 7) (G 8) (G 9) (G 10) (G 11) (G 12) (G 13) (G 14) (G 15) (G 16) (G 17) (G 21) (G 22) (G 23) (G 24) (G 25)) 0 0 4 [(0, .ref (ad 0)), (1, .int ((nf (bX7_tugsNow_4 F G) ((0 : Int32)) (6)))), (2, .int (nI ((6))))] []
    refine j_iload_n C0 dX7_tugsNow_4 rfl ?_
    refine j_bipush C0 (v := 6) dX7_tugsNow_5 (by decide) ?_
    refine j_icmp_ge C0 108 dX7_tugsNow_7 (by decide) (fun _ => ?_) (fun z => absurd (cl_le (show (6 : Int32).toNatClampNeg = 6 by decide +kernel)) z)
    refine j_iload_n C0 dX7_tugsNow_108 rfl ?_
    exact j_iretE C0 rfl (by rw [vX7_tugsNow]) dX7_tugsNow_109 (fun H h => h)
/-! ## firstReady()I -/
theorem dn_inc (j : Nat) : (5 : Int32) - nI j + Int32.ofInt (-1) = 5 - nI (j + 1) := by
  rw [nI_succ, Int32.sub_eq_add_neg, Int32.sub_eq_add_neg, Int32.neg_add, show Int32.ofInt (-1) = -1 by decide, Int32.sub_eq_add_neg (-nI j) 1, Int32.add_assoc]
theorem dn_eq {j : Nat} (h : j < 6) : (5 : Int32) - nI j = nI (5 - j) := by
  rw [show (5 : Int32) = nI 5 from rfl]
  exact pk_sub (by omega)
theorem dn_pos {j : Nat} (h : j < 6) : ¬ (5 : Int32) - nI j < 0 := by rw [dn_eq h]; exact nI_pos (by omega)
theorem dn_in {j : Nat} (h : j < 6) : vp_in ((5 : Int32) - nI j) 6 := by rw [dn_eq h]; exact vp_in_nI (by omega) (by decide)
def bX7_firstReady_4 (F : Nat → Int32) (G : Nat → Nat → Int32) (j4 : Nat) (v4 : Int32) : Int32 := (if (vX7_isPilotReady F G (((G 16) (((5 : Int32) - nI (j4))).toNatClampNeg))) = 0 then (v4) else (((5 : Int32) - nI (j4))))
def vX7_firstReady (F : Nat → Int32) (G : Nat → Nat → Int32) : Int32 := (nf (bX7_firstReady_4 F G) ((-1 : Int32)) (6))
set_option maxRecDepth 100000 in
set_option maxHeartbeats 4000000 in
theorem k_X7_firstReady {l : Launch} (hl : l.stackTraces = false) {D : va_G} {Y : Nat → ClassId} {A : Nat → Prop} {E : State → Prop} (ad : Nat → Nat) (F : Nat → Int32) (G : Nat → Nat → Int32)  (hm : ct (F 20) 100) : KM l yX7_firstReady cX7_firstReady 3 (some .int) D Y A E 1 24 0 0 [.ref (ad 0)] (OR D Y A ad F G) (some (.int (vX7_firstReady F G))) (OR D Y A ad F G) := by
  refine KM_of RX7 [(0, .ref (ad 0))] rfl (by decide) hl (Nat.le_of_ble_eq_true rfl) rfl (lok_of rfl rfl) ?_
  intro p e s m args below meth c C0
  refine j_iconst C0 (v := -1) dX7_firstReady_0 (by decide) ?_
  refine j_istore_n C0 (L' := [(0, .ref (ad 0)), (1, .int ((-1 : Int32)))]) dX7_firstReady_1 (by decide) rfl ?_
  refine j_iconst C0 (v := 5) dX7_firstReady_2 (by decide) ?_
  refine j_istore_n C0 (L' := [(0, .ref (ad 0)), (1, .int ((-1 : Int32))), (2, .int ((5 : Int32)))]) dX7_firstReady_3 (by decide) rfl ?_
  refine hb_lp (P := fun (j : Nat) (v : Int32) => J p l e _ s m args below meth c A 3 _ (OV D Y A ad (F 0) (F 1) (F 5) (F 18) (F 19) (F 20) (G 2) (G 3) (G 4) (G 6) (G 7) (G 8) (G 9) (G 10) (G 11) (G 12) (G 13) (G 14) (G 15) (G 16) (G 17) (G 21) (G 22) (G 23) (G 24) (G 25)) 0 0 4 [(0, .ref (ad 0)), (1, .int (v)), (2, .int (((5 : Int32) - nI (j))))] []) (bX7_firstReady_4 F G) ((-1 : Int32)) (6) ?_ ?_
  ·
    intro j4 hj4 K4
    generalize nf (bX7_firstReady_4 F G) ((-1 : Int32)) j4 = v4 at K4 ⊢
    show J p l e _ s m args below meth c A 3 _ (OV D Y A ad (F 0) (F 1) (F 5) (F 18) (F 19) (F 20) (G 2) (G 3) (G 4) (G 6) (G 7) (G 8) (G 9) (G 10) (G 11) (G 12) (G 13) (G 14) (G 15) (G 16) (G 17) (G 21) (G 22) (G 23) (G 24) (G 25)) 0 0 4 [(0, .ref (ad 0)), (1, .int (v4)), (2, .int (((5 : Int32) - nI (j4))))] []
    replace K4 : J p l e _ s m args below meth c A 3 _ (OV D Y A ad (F 0) (F 1) (F 5) (F 18) (F 19) (F 20) (G 2) (G 3) (G 4) (G 6) (G 7) (G 8) (G 9) (G 10) (G 11) (G 12) (G 13) (G 14) (G 15) (G 16) (G 17) (G 21) (G 22) (G 23) (G 24) (G 25)) 0 0 4 [(0, .ref (ad 0)), (1, .int ((bX7_firstReady_4 F G j4 v4))), (2, .int (((5 : Int32) - nI (j4 + 1))))] [] := K4
    refine j_iload_n C0 dX7_firstReady_4 rfl ?_
    refine j_if_lt C0 33 dX7_firstReady_5 (by decide) (fun z => absurd z (dn_pos (by omega))) (fun _ => ?_)
    refine j_aload_n C0 dX7_firstReady_8 rfl ?_
    refine j_aload_n C0 dX7_firstReady_9 rfl ?_
    refine r_gf_16 C0 dX7_firstReady_10 ?_
    refine j_iload_n C0 dX7_firstReady_13 rfl ?_
    refine r_ld_16 C0 (v := ((G 16) (((5 : Int32) - nI (j4))).toNatClampNeg)) (dn_in (by omega)) dX7_firstReady_14 rfl ?_
    refine j_callVv C0 (k_X7_isPilotReady hl ad F G (((G 16) (((5 : Int32) - nI (j4))).toNatClampNeg)) hm) mv_X7_isPilotReady wm_X7_113 (r_recv C0) rfl rfl ⟨Nat.le_of_ble_eq_true rfl, Nat.le_of_ble_eq_true rfl⟩ (Nat.le_of_ble_eq_true rfl) ⟨Nat.le_refl _, Nat.le_refl _⟩ dX7_firstReady_15 ?_
    refine j_if_eq C0 25 dX7_firstReady_18 (by decide) (fun (q2 : (vX7_isPilotReady F G (((G 16) (((5 : Int32) - nI (j4))).toNatClampNeg))) = 0) => ?_) (fun (q2 : ¬ ((vX7_isPilotReady F G (((G 16) (((5 : Int32) - nI (j4))).toNatClampNeg))) = 0)) => ?_)
    ·
      refine j_iload_n C0 dX7_firstReady_25 rfl ?_
      refine j_istore_n C0 (L' := [(0, .ref (ad 0)), (1, .int (v4)), (2, .int (((5 : Int32) - nI (j4))))]) dX7_firstReady_26 (by decide) rfl ?_
      refine j_iinc C0 (v := ((5 : Int32) - nI (j4 + 1))) (L' := [(0, .ref (ad 0)), (1, .int (v4)), (2, .int (((5 : Int32) - nI (j4 + 1))))]) dX7_firstReady_27 rfl (dn_inc j4) (by decide) rfl ?_
      refine j_goto C0 4 dX7_firstReady_30 (by decide) ?_
      rw [bX7_firstReady_4, if_pos q2] at K4
      exact K4
    ·
      refine j_iload_n C0 dX7_firstReady_21 rfl ?_
      refine j_goto C0 26 dX7_firstReady_22 (by decide) ?_
      refine j_istore_n C0 (L' := [(0, .ref (ad 0)), (1, .int (((5 : Int32) - nI (j4)))), (2, .int (((5 : Int32) - nI (j4))))]) dX7_firstReady_26 (by decide) rfl ?_
      refine j_iinc C0 (v := ((5 : Int32) - nI (j4 + 1))) (L' := [(0, .ref (ad 0)), (1, .int (((5 : Int32) - nI (j4)))), (2, .int (((5 : Int32) - nI (j4 + 1))))]) dX7_firstReady_27 rfl (dn_inc j4) (by decide) rfl ?_
      refine j_goto C0 4 dX7_firstReady_30 (by decide) ?_
      rw [bX7_firstReady_4, if_neg q2] at K4
      exact K4
  ·
    show J p l e _ s m args below meth c A 3 _ (OV D Y A ad (F 0) (F 1) (F 5) (F 18) (F 19) (F 20) (G 2) (G 3) (G 4) (G 6) (G 7) (G 8) (G 9) (G 10) (G 11) (G 12) (G 13) (G 14) (G 15) (G 16) (G 17) (G 21) (G 22) (G 23) (G 24) (G 25)) 0 0 4 [(0, .ref (ad 0)), (1, .int ((nf (bX7_firstReady_4 F G) ((-1 : Int32)) (6)))), (2, .int (((5 : Int32) - nI ((6)))))] []
    refine j_iload_n C0 dX7_firstReady_4 rfl ?_
    refine j_if_lt C0 33 dX7_firstReady_5 (by decide) (fun _ => ?_) (fun z => absurd (by decide +kernel) z)
    refine j_iload_n C0 dX7_firstReady_33 rfl ?_
    exact j_iretE C0 rfl (by rw [vX7_firstReady]) dX7_firstReady_34 (fun H h => h)
/-! ## placeOf(I)I -/
def bX7_placeOf_4 (F : Nat → Int32) (G : Nat → Nat → Int32) (a1 : Int32) (j4 : Nat) (v4 : Int32) : Int32 := (if ((G 16) (nI j4).toNatClampNeg) = a1 then (nI j4) else (v4))
def vX7_placeOf (F : Nat → Int32) (G : Nat → Nat → Int32) (a1 : Int32) : Int32 := (nf (bX7_placeOf_4 F G a1) ((-1 : Int32)) (6))
set_option maxRecDepth 100000 in
set_option maxHeartbeats 4000000 in
theorem k_X7_placeOf {l : Launch} (hl : l.stackTraces = false) {D : va_G} {Y : Nat → ClassId} {A : Nat → Prop} {E : State → Prop} (ad : Nat → Nat) (F : Nat → Int32) (G : Nat → Nat → Int32) (a1 : Int32)  : KM l yX7_placeOf cX7_placeOf 4 (some .int) D Y A E 0 0 0 0 [.ref (ad 0), .int (a1)] (OR D Y A ad F G) (some (.int (vX7_placeOf F G a1))) (OR D Y A ad F G) := by
  refine KM_of RX7 [(0, .ref (ad 0)), (1, .int (a1))] rfl (by decide) hl (Nat.le_of_ble_eq_true rfl) rfl (lok_of rfl rfl) ?_
  intro p e s m args below meth c C0
  refine j_iconst C0 (v := -1) dX7_placeOf_0 (by decide) ?_
  refine j_istore_n C0 (L' := [(0, .ref (ad 0)), (1, .int (a1)), (2, .int ((-1 : Int32)))]) dX7_placeOf_1 (by decide) rfl ?_
  refine j_iconst C0 (v := 0) dX7_placeOf_2 (by decide) ?_
  refine j_istore_n C0 (L' := [(0, .ref (ad 0)), (1, .int (a1)), (2, .int ((-1 : Int32))), (3, .int ((0 : Int32)))]) dX7_placeOf_3 (by decide) rfl ?_
  refine hb_lp (P := fun (j : Nat) (v : Int32) => J p l e _ s m args below meth c A 4 _ (OV D Y A ad (F 0) (F 1) (F 5) (F 18) (F 19) (F 20) (G 2) (G 3) (G 4) (G 6) (G 7) (G 8) (G 9) (G 10) (G 11) (G 12) (G 13) (G 14) (G 15) (G 16) (G 17) (G 21) (G 22) (G 23) (G 24) (G 25)) 0 0 4 [(0, .ref (ad 0)), (1, .int (a1)), (2, .int (v)), (3, .int (nI j))] []) (bX7_placeOf_4 F G a1) ((-1 : Int32)) (6) ?_ ?_
  ·
    intro j4 hj4 K4
    generalize nf (bX7_placeOf_4 F G a1) ((-1 : Int32)) j4 = v4 at K4 ⊢
    show J p l e _ s m args below meth c A 4 _ (OV D Y A ad (F 0) (F 1) (F 5) (F 18) (F 19) (F 20) (G 2) (G 3) (G 4) (G 6) (G 7) (G 8) (G 9) (G 10) (G 11) (G 12) (G 13) (G 14) (G 15) (G 16) (G 17) (G 21) (G 22) (G 23) (G 24) (G 25)) 0 0 4 [(0, .ref (ad 0)), (1, .int (a1)), (2, .int (v4)), (3, .int (nI j4))] []
    replace K4 : J p l e _ s m args below meth c A 4 _ (OV D Y A ad (F 0) (F 1) (F 5) (F 18) (F 19) (F 20) (G 2) (G 3) (G 4) (G 6) (G 7) (G 8) (G 9) (G 10) (G 11) (G 12) (G 13) (G 14) (G 15) (G 16) (G 17) (G 21) (G 22) (G 23) (G 24) (G 25)) 0 0 4 [(0, .ref (ad 0)), (1, .int (a1)), (2, .int ((bX7_placeOf_4 F G a1 j4 v4))), (3, .int (nI (j4 + 1)))] [] := K4
    refine j_iload_n C0 dX7_placeOf_4 rfl ?_
    refine j_bipush C0 (v := 6) dX7_placeOf_5 (by decide) ?_
    refine j_icmp_ge C0 32 dX7_placeOf_7 (by decide) (fun z => absurd z (cl_lt (show (6 : Int32).toNatClampNeg = 6 by decide +kernel) hj4)) (fun _ => ?_)
    refine j_aload_n C0 dX7_placeOf_10 rfl ?_
    refine r_gf_16 C0 dX7_placeOf_11 ?_
    refine j_iload_n C0 dX7_placeOf_14 rfl ?_
    refine r_ld_16 C0 (v := ((G 16) (nI j4).toNatClampNeg)) (vp_nI (by omega) (by decide)) dX7_placeOf_15 rfl ?_
    refine j_iload_n C0 dX7_placeOf_16 rfl ?_
    refine j_icmp_ne C0 24 dX7_placeOf_17 (by decide) (fun (q2 : ¬ (((G 16) (nI j4).toNatClampNeg) = a1)) => ?_) (fun (q2 : ((G 16) (nI j4).toNatClampNeg) = a1) => ?_)
    ·
      refine j_iload_n C0 dX7_placeOf_24 rfl ?_
      refine j_istore_n C0 (L' := [(0, .ref (ad 0)), (1, .int (a1)), (2, .int (v4)), (3, .int (nI j4))]) dX7_placeOf_25 (by decide) rfl ?_
      refine j_iinc C0 (v := nI (j4 + 1)) (L' := [(0, .ref (ad 0)), (1, .int (a1)), (2, .int (v4)), (3, .int (nI (j4 + 1)))]) dX7_placeOf_26 rfl (nI_inc j4) (by decide) rfl ?_
      refine j_goto C0 4 dX7_placeOf_29 (by decide) ?_
      rw [bX7_placeOf_4, if_neg q2] at K4
      exact K4
    ·
      refine j_iload_n C0 dX7_placeOf_20 rfl ?_
      refine j_goto C0 25 dX7_placeOf_21 (by decide) ?_
      refine j_istore_n C0 (L' := [(0, .ref (ad 0)), (1, .int (a1)), (2, .int (nI j4)), (3, .int (nI j4))]) dX7_placeOf_25 (by decide) rfl ?_
      refine j_iinc C0 (v := nI (j4 + 1)) (L' := [(0, .ref (ad 0)), (1, .int (a1)), (2, .int (nI j4)), (3, .int (nI (j4 + 1)))]) dX7_placeOf_26 rfl (nI_inc j4) (by decide) rfl ?_
      refine j_goto C0 4 dX7_placeOf_29 (by decide) ?_
      rw [bX7_placeOf_4, if_pos q2] at K4
      exact K4
  ·
    show J p l e _ s m args below meth c A 4 _ (OV D Y A ad (F 0) (F 1) (F 5) (F 18) (F 19) (F 20) (G 2) (G 3) (G 4) (G 6) (G 7) (G 8) (G 9) (G 10) (G 11) (G 12) (G 13) (G 14) (G 15) (G 16) (G 17) (G 21) (G 22) (G 23) (G 24) (G 25)) 0 0 4 [(0, .ref (ad 0)), (1, .int (a1)), (2, .int ((nf (bX7_placeOf_4 F G a1) ((-1 : Int32)) (6)))), (3, .int (nI ((6))))] []
    refine j_iload_n C0 dX7_placeOf_4 rfl ?_
    refine j_bipush C0 (v := 6) dX7_placeOf_5 (by decide) ?_
    refine j_icmp_ge C0 32 dX7_placeOf_7 (by decide) (fun _ => ?_) (fun z => absurd (cl_le (show (6 : Int32).toNatClampNeg = 6 by decide +kernel)) z)
    refine j_iload_n C0 dX7_placeOf_32 rfl ?_
    exact j_iretE C0 rfl (by rw [vX7_placeOf]) dX7_placeOf_33 (fun H h => h)
/-! ## isFree(I)Z -/
def bX7_isFree_4 (F : Nat → Int32) (G : Nat → Nat → Int32) (a1 : Int32) (j4 : Nat) (v4 : Int32) : Int32 := (if v4 = 0 then ((0 : Int32)) else (if ((G 9) (nI j4).toNatClampNeg) = a1 then (if ((G 10) (nI j4).toNatClampNeg) = 0 then ((1 : Int32)) else (if ((G 10) (nI j4).toNatClampNeg) = (4 : Int32) then ((1 : Int32)) else ((0 : Int32)))) else ((1 : Int32))))
def vX7_isFree (F : Nat → Int32) (G : Nat → Nat → Int32) (a1 : Int32) : Int32 := (nf (bX7_isFree_4 F G a1) ((1 : Int32)) ((F 5).toNatClampNeg))
theorem z_X7_isFree (F : Nat → Int32) (G : Nat → Nat → Int32) (a1 : Int32) (N : Nat) : nf (bX7_isFree_4 F G a1) (1 : Int32) N = 0 ∨ nf (bX7_isFree_4 F G a1) (1 : Int32) N = 1 := by
  induction N with
  | zero => exact Or.inr rfl
  | succ n ih =>
    rw [nf, bX7_isFree_4]
    repeat' split
    all_goals first | exact Or.inl rfl | exact Or.inr rfl | exact ih
set_option maxRecDepth 100000 in
set_option maxHeartbeats 4000000 in
theorem k_X7_isFree {l : Launch} (hl : l.stackTraces = false) {D : va_G} {Y : Nat → ClassId} {A : Nat → Prop} {E : State → Prop} (ad : Nat → Nat) (F : Nat → Int32) (G : Nat → Nat → Int32) (a1 : Int32) (hs : ct (F 5) 30) : KM l yX7_isFree cX7_isFree 4 (some .boolean) D Y A E 0 0 0 0 [.ref (ad 0), .int (a1)] (OR D Y A ad F G) (some (.int (vX7_isFree F G a1))) (OR D Y A ad F G) := by
  refine KM_of RX7 [(0, .ref (ad 0)), (1, .int (a1))] rfl (by decide) hl (Nat.le_of_ble_eq_true rfl) rfl (lok_of rfl rfl) ?_
  intro p e s m args below meth c C0
  have hsc := hs.cl (by decide)
  refine j_iconst C0 (v := 1) dX7_isFree_0 (by decide) ?_
  refine j_istore_n C0 (L' := [(0, .ref (ad 0)), (1, .int (a1)), (2, .int ((1 : Int32)))]) dX7_isFree_1 (by decide) rfl ?_
  refine j_iconst C0 (v := 0) dX7_isFree_2 (by decide) ?_
  refine j_istore_n C0 (L' := [(0, .ref (ad 0)), (1, .int (a1)), (2, .int ((1 : Int32))), (3, .int ((0 : Int32)))]) dX7_isFree_3 (by decide) rfl ?_
  refine hb_lp (P := fun (j : Nat) (v : Int32) => J p l e _ s m args below meth c A 4 _ (OV D Y A ad (F 0) (F 1) (F 5) (F 18) (F 19) (F 20) (G 2) (G 3) (G 4) (G 6) (G 7) (G 8) (G 9) (G 10) (G 11) (G 12) (G 13) (G 14) (G 15) (G 16) (G 17) (G 21) (G 22) (G 23) (G 24) (G 25)) 0 0 4 [(0, .ref (ad 0)), (1, .int (a1)), (2, .int (v)), (3, .int (nI j))] []) (bX7_isFree_4 F G a1) ((1 : Int32)) ((F 5).toNatClampNeg) ?_ ?_
  ·
    intro j4 hj4 K4
    generalize nf (bX7_isFree_4 F G a1) ((1 : Int32)) j4 = v4 at K4 ⊢
    show J p l e _ s m args below meth c A 4 _ (OV D Y A ad (F 0) (F 1) (F 5) (F 18) (F 19) (F 20) (G 2) (G 3) (G 4) (G 6) (G 7) (G 8) (G 9) (G 10) (G 11) (G 12) (G 13) (G 14) (G 15) (G 16) (G 17) (G 21) (G 22) (G 23) (G 24) (G 25)) 0 0 4 [(0, .ref (ad 0)), (1, .int (a1)), (2, .int (v4)), (3, .int (nI j4))] []
    replace K4 : J p l e _ s m args below meth c A 4 _ (OV D Y A ad (F 0) (F 1) (F 5) (F 18) (F 19) (F 20) (G 2) (G 3) (G 4) (G 6) (G 7) (G 8) (G 9) (G 10) (G 11) (G 12) (G 13) (G 14) (G 15) (G 16) (G 17) (G 21) (G 22) (G 23) (G 24) (G 25)) 0 0 4 [(0, .ref (ad 0)), (1, .int (a1)), (2, .int ((bX7_isFree_4 F G a1 j4 v4))), (3, .int (nI (j4 + 1)))] [] := K4
    refine j_iload_n C0 dX7_isFree_4 rfl ?_
    refine j_aload_n C0 dX7_isFree_5 rfl ?_
    refine r_gf_5 C0 (v := (F 5)) dX7_isFree_6 rfl ?_
    refine j_icmp_ge C0 57 dX7_isFree_9 (by decide) (fun z => absurd z (cl_lt rfl hj4)) (fun _ => ?_)
    refine j_iload_n C0 dX7_isFree_12 rfl ?_
    refine j_if_eq C0 49 dX7_isFree_13 (by decide) (fun (q2 : v4 = 0) => ?_) (fun (q2 : ¬ (v4 = 0)) => ?_)
    ·
      refine j_iconst C0 (v := 0) dX7_isFree_49 (by decide) ?_
      refine j_istore_n C0 (L' := [(0, .ref (ad 0)), (1, .int (a1)), (2, .int ((0 : Int32))), (3, .int (nI j4))]) dX7_isFree_50 (by decide) rfl ?_
      refine j_iinc C0 (v := nI (j4 + 1)) (L' := [(0, .ref (ad 0)), (1, .int (a1)), (2, .int ((0 : Int32))), (3, .int (nI (j4 + 1)))]) dX7_isFree_51 rfl (nI_inc j4) (by decide) rfl ?_
      refine j_goto C0 4 dX7_isFree_54 (by decide) ?_
      rw [bX7_isFree_4, if_pos q2] at K4
      exact K4
    ·
      refine j_aload_n C0 dX7_isFree_16 rfl ?_
      refine r_gf_9 C0 dX7_isFree_17 ?_
      refine j_iload_n C0 dX7_isFree_20 rfl ?_
      refine r_ld_9 C0 (v := ((G 9) (nI j4).toNatClampNeg)) (vp_nI (by omega) (by decide)) dX7_isFree_21 rfl ?_
      refine j_iload_n C0 dX7_isFree_22 rfl ?_
      refine j_icmp_ne C0 45 dX7_isFree_23 (by decide) (fun (q3 : ¬ (((G 9) (nI j4).toNatClampNeg) = a1)) => ?_) (fun (q3 : ((G 9) (nI j4).toNatClampNeg) = a1) => ?_)
      ·
        refine j_iconst C0 (v := 1) dX7_isFree_45 (by decide) ?_
        refine j_goto C0 50 dX7_isFree_46 (by decide) ?_
        refine j_istore_n C0 (L' := [(0, .ref (ad 0)), (1, .int (a1)), (2, .int ((1 : Int32))), (3, .int (nI j4))]) dX7_isFree_50 (by decide) rfl ?_
        refine j_iinc C0 (v := nI (j4 + 1)) (L' := [(0, .ref (ad 0)), (1, .int (a1)), (2, .int ((1 : Int32))), (3, .int (nI (j4 + 1)))]) dX7_isFree_51 rfl (nI_inc j4) (by decide) rfl ?_
        refine j_goto C0 4 dX7_isFree_54 (by decide) ?_
        rw [bX7_isFree_4, if_neg q2, if_neg q3] at K4
        exact K4
      ·
        refine j_aload_n C0 dX7_isFree_26 rfl ?_
        refine r_gf_10 C0 dX7_isFree_27 ?_
        refine j_iload_n C0 dX7_isFree_30 rfl ?_
        refine r_ld_10 C0 (v := ((G 10) (nI j4).toNatClampNeg)) (vp_nI (by omega) (by decide)) dX7_isFree_31 rfl ?_
        refine j_if_eq C0 45 dX7_isFree_32 (by decide) (fun (q4 : ((G 10) (nI j4).toNatClampNeg) = 0) => ?_) (fun (q4 : ¬ (((G 10) (nI j4).toNatClampNeg) = 0)) => ?_)
        ·
          refine j_iconst C0 (v := 1) dX7_isFree_45 (by decide) ?_
          refine j_goto C0 50 dX7_isFree_46 (by decide) ?_
          refine j_istore_n C0 (L' := [(0, .ref (ad 0)), (1, .int (a1)), (2, .int ((1 : Int32))), (3, .int (nI j4))]) dX7_isFree_50 (by decide) rfl ?_
          refine j_iinc C0 (v := nI (j4 + 1)) (L' := [(0, .ref (ad 0)), (1, .int (a1)), (2, .int ((1 : Int32))), (3, .int (nI (j4 + 1)))]) dX7_isFree_51 rfl (nI_inc j4) (by decide) rfl ?_
          refine j_goto C0 4 dX7_isFree_54 (by decide) ?_
          rw [bX7_isFree_4, if_neg q2, if_pos q3, if_pos q4] at K4
          exact K4
        ·
          refine j_aload_n C0 dX7_isFree_35 rfl ?_
          refine r_gf_10 C0 dX7_isFree_36 ?_
          refine j_iload_n C0 dX7_isFree_39 rfl ?_
          refine r_ld_10 C0 (v := ((G 10) (nI j4).toNatClampNeg)) (vp_nI (by omega) (by decide)) dX7_isFree_40 rfl ?_
          refine j_iconst C0 (v := 4) dX7_isFree_41 (by decide) ?_
          refine j_icmp_ne C0 49 dX7_isFree_42 (by decide) (fun (q5 : ¬ (((G 10) (nI j4).toNatClampNeg) = (4 : Int32))) => ?_) (fun (q5 : ((G 10) (nI j4).toNatClampNeg) = (4 : Int32)) => ?_)
          ·
            refine j_iconst C0 (v := 0) dX7_isFree_49 (by decide) ?_
            refine j_istore_n C0 (L' := [(0, .ref (ad 0)), (1, .int (a1)), (2, .int ((0 : Int32))), (3, .int (nI j4))]) dX7_isFree_50 (by decide) rfl ?_
            refine j_iinc C0 (v := nI (j4 + 1)) (L' := [(0, .ref (ad 0)), (1, .int (a1)), (2, .int ((0 : Int32))), (3, .int (nI (j4 + 1)))]) dX7_isFree_51 rfl (nI_inc j4) (by decide) rfl ?_
            refine j_goto C0 4 dX7_isFree_54 (by decide) ?_
            rw [bX7_isFree_4, if_neg q2, if_pos q3, if_neg q4, if_neg q5] at K4
            exact K4
          ·
            refine j_iconst C0 (v := 1) dX7_isFree_45 (by decide) ?_
            refine j_goto C0 50 dX7_isFree_46 (by decide) ?_
            refine j_istore_n C0 (L' := [(0, .ref (ad 0)), (1, .int (a1)), (2, .int ((1 : Int32))), (3, .int (nI j4))]) dX7_isFree_50 (by decide) rfl ?_
            refine j_iinc C0 (v := nI (j4 + 1)) (L' := [(0, .ref (ad 0)), (1, .int (a1)), (2, .int ((1 : Int32))), (3, .int (nI (j4 + 1)))]) dX7_isFree_51 rfl (nI_inc j4) (by decide) rfl ?_
            refine j_goto C0 4 dX7_isFree_54 (by decide) ?_
            rw [bX7_isFree_4, if_neg q2, if_pos q3, if_neg q4, if_pos q5] at K4
            exact K4
  ·
    show J p l e _ s m args below meth c A 4 _ (OV D Y A ad (F 0) (F 1) (F 5) (F 18) (F 19) (F 20) (G 2) (G 3) (G 4) (G 6) (G 7) (G 8) (G 9) (G 10) (G 11) (G 12) (G 13) (G 14) (G 15) (G 16) (G 17) (G 21) (G 22) (G 23) (G 24) (G 25)) 0 0 4 [(0, .ref (ad 0)), (1, .int (a1)), (2, .int ((nf (bX7_isFree_4 F G a1) ((1 : Int32)) ((F 5).toNatClampNeg)))), (3, .int (nI (((F 5).toNatClampNeg))))] []
    refine j_iload_n C0 dX7_isFree_4 rfl ?_
    refine j_aload_n C0 dX7_isFree_5 rfl ?_
    refine r_gf_5 C0 (v := (F 5)) dX7_isFree_6 rfl ?_
    refine j_icmp_ge C0 57 dX7_isFree_9 (by decide) (fun _ => ?_) (fun z => absurd (cl_le rfl) z)
    refine j_iload_n C0 dX7_isFree_57 rfl ?_
    exact j_zretE C0 rfl (by rw [vX7_isFree]) (nb_of (z_X7_isFree F G a1 _)) dX7_isFree_58 (fun H h => h)
/-! ## lowest(II)I -/
def bX7_lowest_7 (a1 : Int32) (a2 : Int32) (j7 : Nat) (v7 : Int32 × Int32) : Int32 × Int32 := match v7 with | (v7_0, v7_1) => (if ((a1 >>> (nI j7 &&& 31)) &&& (1 : Int32)) = (1 : Int32) then (if a2 ≤ v7_1 then ((v7_0 ||| (0 : Int32)), (v7_1 + (0 : Int32))) else ((v7_0 ||| ((1 : Int32) <<< (nI j7 &&& 31))), (v7_1 + (1 : Int32)))) else ((v7_0 ||| (0 : Int32)), (v7_1 + (0 : Int32))))
def vX7_lowest (a1 : Int32) (a2 : Int32) : Int32 := (nf (bX7_lowest_7 a1 a2) ((0 : Int32), (0 : Int32)) (6)).1
set_option maxRecDepth 100000 in
set_option maxHeartbeats 4000000 in
theorem k_X7_lowest {l : Launch} (hl : l.stackTraces = false) {D : va_G} {Y : Nat → ClassId} {A : Nat → Prop} {E : State → Prop} {Ω : Heap → Prop} (a1 : Int32) (a2 : Int32)  : KM l yX7_lowest cX7_lowest 6 (some .int) D Y A E 0 0 0 0 [.int (a1), .int (a2)] Ω (some (.int (vX7_lowest a1 a2))) Ω := by
  refine KM_of RX7 [(0, .int (a1)), (1, .int (a2))] rfl (by decide) hl (Nat.le_of_ble_eq_true rfl) rfl (lok_of rfl rfl) ?_
  intro p e s m args below meth c C0
  refine j_iconst C0 (v := 0) dX7_lowest_0 (by decide) ?_
  refine j_istore_n C0 (L' := [(0, .int (a1)), (1, .int (a2)), (2, .int ((0 : Int32)))]) dX7_lowest_1 (by decide) rfl ?_
  refine j_iconst C0 (v := 0) dX7_lowest_2 (by decide) ?_
  refine j_istore_n C0 (L' := [(0, .int (a1)), (1, .int (a2)), (2, .int ((0 : Int32))), (3, .int ((0 : Int32)))]) dX7_lowest_3 (by decide) rfl ?_
  refine j_iconst C0 (v := 0) dX7_lowest_4 (by decide) ?_
  refine j_istore C0 (L' := [(0, .int (a1)), (1, .int (a2)), (2, .int ((0 : Int32))), (3, .int ((0 : Int32))), (4, .int ((0 : Int32)))]) dX7_lowest_5 (by decide) rfl ?_
  refine hb_lp (P := fun (j : Nat) (v : Int32 × Int32) => J p l e _ s m args below meth c A 6 _ Ω 0 0 7 [(0, .int (a1)), (1, .int (a2)), (2, .int (v.1)), (3, .int (v.2)), (4, .int (nI j))] []) (bX7_lowest_7 a1 a2) ((0 : Int32), (0 : Int32)) (6) ?_ ?_
  ·
    intro j7 hj7 K7
    generalize nf (bX7_lowest_7 a1 a2) ((0 : Int32), (0 : Int32)) j7 = v7 at K7 ⊢
    obtain ⟨v7_0, v7_1⟩ := v7
    show J p l e _ s m args below meth c A 6 _ Ω 0 0 7 [(0, .int (a1)), (1, .int (a2)), (2, .int (v7_0)), (3, .int (v7_1)), (4, .int (nI j7))] []
    replace K7 : J p l e _ s m args below meth c A 6 _ Ω 0 0 7 [(0, .int (a1)), (1, .int (a2)), (2, .int ((bX7_lowest_7 a1 a2 j7 (v7_0, v7_1)).1)), (3, .int ((bX7_lowest_7 a1 a2 j7 (v7_0, v7_1)).2)), (4, .int (nI (j7 + 1)))] [] := K7
    refine j_iload C0 dX7_lowest_7 rfl ?_
    refine j_bipush C0 (v := 6) dX7_lowest_9 (by decide) ?_
    refine j_icmp_ge C0 71 dX7_lowest_11 (by decide) (fun z => absurd z (cl_lt (show (6 : Int32).toNatClampNeg = 6 by decide +kernel) hj7)) (fun _ => ?_)
    refine j_iload_n C0 dX7_lowest_14 rfl ?_
    refine j_iload C0 dX7_lowest_15 rfl ?_
    refine j_ishr C0 dX7_lowest_17 ?_
    refine j_iconst C0 (v := 1) dX7_lowest_18 (by decide) ?_
    refine j_iand C0 dX7_lowest_19 ?_
    refine j_iconst C0 (v := 1) dX7_lowest_20 (by decide) ?_
    refine j_icmp_ne C0 33 dX7_lowest_21 (by decide) (fun (q2 : ¬ (((a1 >>> (nI j7 &&& 31)) &&& (1 : Int32)) = (1 : Int32))) => ?_) (fun (q2 : ((a1 >>> (nI j7 &&& 31)) &&& (1 : Int32)) = (1 : Int32)) => ?_)
    ·
      refine j_iconst C0 (v := 0) dX7_lowest_33 (by decide) ?_
      refine j_istore C0 (L' := [(0, .int (a1)), (1, .int (a2)), (2, .int (v7_0)), (3, .int (v7_1)), (4, .int (nI j7)), (5, .int ((0 : Int32)))]) dX7_lowest_34 (by decide) rfl ?_
      refine j_iload_n C0 dX7_lowest_36 rfl ?_
      refine j_iload C0 dX7_lowest_37 rfl ?_
      refine j_if_eq C0 49 dX7_lowest_39 (by decide) (fun _ => ?_) (fun z => absurd (by decide) z)
      refine j_iconst C0 (v := 0) dX7_lowest_49 (by decide) ?_
      refine j_ior C0 dX7_lowest_50 ?_
      refine j_istore_n C0 (L' := [(0, .int (a1)), (1, .int (a2)), (2, .int ((v7_0 ||| (0 : Int32)))), (3, .int (v7_1)), (4, .int (nI j7)), (5, .int ((0 : Int32)))]) dX7_lowest_51 (by decide) rfl ?_
      refine j_iload_n C0 dX7_lowest_52 rfl ?_
      refine j_iload C0 dX7_lowest_53 rfl ?_
      refine j_if_eq C0 62 dX7_lowest_55 (by decide) (fun _ => ?_) (fun z => absurd (by decide) z)
      refine j_iconst C0 (v := 0) dX7_lowest_62 (by decide) ?_
      refine j_iadd C0 dX7_lowest_63 ?_
      refine j_istore_n C0 (L' := [(0, .int (a1)), (1, .int (a2)), (2, .int ((v7_0 ||| (0 : Int32)))), (3, .int ((v7_1 + (0 : Int32)))), (4, .int (nI j7)), (5, .int ((0 : Int32)))]) dX7_lowest_64 (by decide) rfl ?_
      refine j_iinc C0 (v := nI (j7 + 1)) (L' := [(0, .int (a1)), (1, .int (a2)), (2, .int ((v7_0 ||| (0 : Int32)))), (3, .int ((v7_1 + (0 : Int32)))), (4, .int (nI (j7 + 1))), (5, .int ((0 : Int32)))]) dX7_lowest_65 rfl (nI_inc j7) (by decide) rfl ?_
      refine j_goto C0 7 dX7_lowest_68 (by decide) ?_
      rw [bX7_lowest_7, if_neg q2] at K7
      refine j_locals (L' := [(0, .int (a1)), (1, .int (a2)), (2, .int ((v7_0 ||| (0 : Int32)))), (3, .int ((v7_1 + (0 : Int32)))), (4, .int (nI (j7 + 1)))]) (fun q hq => by simp only [List.mem_cons, List.mem_nil_iff, or_false] at hq ⊢; rcases hq with rfl | rfl | rfl | rfl | rfl <;> simp) (lok_of rfl rfl) ?_
      exact K7
    ·
      refine j_iload_n C0 dX7_lowest_24 rfl ?_
      refine j_iload_n C0 dX7_lowest_25 rfl ?_
      refine j_icmp_ge C0 33 dX7_lowest_26 (by decide) (fun (q5 : a2 ≤ v7_1) => ?_) (fun (q5 : ¬ (a2 ≤ v7_1)) => ?_)
      ·
        refine j_iconst C0 (v := 0) dX7_lowest_33 (by decide) ?_
        refine j_istore C0 (L' := [(0, .int (a1)), (1, .int (a2)), (2, .int (v7_0)), (3, .int (v7_1)), (4, .int (nI j7)), (5, .int ((0 : Int32)))]) dX7_lowest_34 (by decide) rfl ?_
        refine j_iload_n C0 dX7_lowest_36 rfl ?_
        refine j_iload C0 dX7_lowest_37 rfl ?_
        refine j_if_eq C0 49 dX7_lowest_39 (by decide) (fun _ => ?_) (fun z => absurd (by decide) z)
        refine j_iconst C0 (v := 0) dX7_lowest_49 (by decide) ?_
        refine j_ior C0 dX7_lowest_50 ?_
        refine j_istore_n C0 (L' := [(0, .int (a1)), (1, .int (a2)), (2, .int ((v7_0 ||| (0 : Int32)))), (3, .int (v7_1)), (4, .int (nI j7)), (5, .int ((0 : Int32)))]) dX7_lowest_51 (by decide) rfl ?_
        refine j_iload_n C0 dX7_lowest_52 rfl ?_
        refine j_iload C0 dX7_lowest_53 rfl ?_
        refine j_if_eq C0 62 dX7_lowest_55 (by decide) (fun _ => ?_) (fun z => absurd (by decide) z)
        refine j_iconst C0 (v := 0) dX7_lowest_62 (by decide) ?_
        refine j_iadd C0 dX7_lowest_63 ?_
        refine j_istore_n C0 (L' := [(0, .int (a1)), (1, .int (a2)), (2, .int ((v7_0 ||| (0 : Int32)))), (3, .int ((v7_1 + (0 : Int32)))), (4, .int (nI j7)), (5, .int ((0 : Int32)))]) dX7_lowest_64 (by decide) rfl ?_
        refine j_iinc C0 (v := nI (j7 + 1)) (L' := [(0, .int (a1)), (1, .int (a2)), (2, .int ((v7_0 ||| (0 : Int32)))), (3, .int ((v7_1 + (0 : Int32)))), (4, .int (nI (j7 + 1))), (5, .int ((0 : Int32)))]) dX7_lowest_65 rfl (nI_inc j7) (by decide) rfl ?_
        refine j_goto C0 7 dX7_lowest_68 (by decide) ?_
        rw [bX7_lowest_7, if_pos q2, if_pos q5] at K7
        refine j_locals (L' := [(0, .int (a1)), (1, .int (a2)), (2, .int ((v7_0 ||| (0 : Int32)))), (3, .int ((v7_1 + (0 : Int32)))), (4, .int (nI (j7 + 1)))]) (fun q hq => by simp only [List.mem_cons, List.mem_nil_iff, or_false] at hq ⊢; rcases hq with rfl | rfl | rfl | rfl | rfl <;> simp) (lok_of rfl rfl) ?_
        exact K7
      ·
        refine j_iconst C0 (v := 1) dX7_lowest_29 (by decide) ?_
        refine j_goto C0 34 dX7_lowest_30 (by decide) ?_
        refine j_istore C0 (L' := [(0, .int (a1)), (1, .int (a2)), (2, .int (v7_0)), (3, .int (v7_1)), (4, .int (nI j7)), (5, .int ((1 : Int32)))]) dX7_lowest_34 (by decide) rfl ?_
        refine j_iload_n C0 dX7_lowest_36 rfl ?_
        refine j_iload C0 dX7_lowest_37 rfl ?_
        refine j_if_eq C0 49 dX7_lowest_39 (by decide) (fun z => absurd z (by decide)) (fun _ => ?_)
        refine j_iconst C0 (v := 1) dX7_lowest_42 (by decide) ?_
        refine j_iload C0 dX7_lowest_43 rfl ?_
        refine j_ishl C0 dX7_lowest_45 ?_
        refine j_goto C0 50 dX7_lowest_46 (by decide) ?_
        refine j_ior C0 dX7_lowest_50 ?_
        refine j_istore_n C0 (L' := [(0, .int (a1)), (1, .int (a2)), (2, .int ((v7_0 ||| ((1 : Int32) <<< (nI j7 &&& 31))))), (3, .int (v7_1)), (4, .int (nI j7)), (5, .int ((1 : Int32)))]) dX7_lowest_51 (by decide) rfl ?_
        refine j_iload_n C0 dX7_lowest_52 rfl ?_
        refine j_iload C0 dX7_lowest_53 rfl ?_
        refine j_if_eq C0 62 dX7_lowest_55 (by decide) (fun z => absurd z (by decide)) (fun _ => ?_)
        refine j_iconst C0 (v := 1) dX7_lowest_58 (by decide) ?_
        refine j_goto C0 63 dX7_lowest_59 (by decide) ?_
        refine j_iadd C0 dX7_lowest_63 ?_
        refine j_istore_n C0 (L' := [(0, .int (a1)), (1, .int (a2)), (2, .int ((v7_0 ||| ((1 : Int32) <<< (nI j7 &&& 31))))), (3, .int ((v7_1 + (1 : Int32)))), (4, .int (nI j7)), (5, .int ((1 : Int32)))]) dX7_lowest_64 (by decide) rfl ?_
        refine j_iinc C0 (v := nI (j7 + 1)) (L' := [(0, .int (a1)), (1, .int (a2)), (2, .int ((v7_0 ||| ((1 : Int32) <<< (nI j7 &&& 31))))), (3, .int ((v7_1 + (1 : Int32)))), (4, .int (nI (j7 + 1))), (5, .int ((1 : Int32)))]) dX7_lowest_65 rfl (nI_inc j7) (by decide) rfl ?_
        refine j_goto C0 7 dX7_lowest_68 (by decide) ?_
        rw [bX7_lowest_7, if_pos q2, if_neg q5] at K7
        refine j_locals (L' := [(0, .int (a1)), (1, .int (a2)), (2, .int ((v7_0 ||| ((1 : Int32) <<< (nI j7 &&& 31))))), (3, .int ((v7_1 + (1 : Int32)))), (4, .int (nI (j7 + 1)))]) (fun q hq => by simp only [List.mem_cons, List.mem_nil_iff, or_false] at hq ⊢; rcases hq with rfl | rfl | rfl | rfl | rfl <;> simp) (lok_of rfl rfl) ?_
        exact K7
  ·
    show J p l e _ s m args below meth c A 6 _ Ω 0 0 7 [(0, .int (a1)), (1, .int (a2)), (2, .int ((nf (bX7_lowest_7 a1 a2) ((0 : Int32), (0 : Int32)) (6)).1)), (3, .int ((nf (bX7_lowest_7 a1 a2) ((0 : Int32), (0 : Int32)) (6)).2)), (4, .int (nI ((6))))] []
    refine j_iload C0 dX7_lowest_7 rfl ?_
    refine j_bipush C0 (v := 6) dX7_lowest_9 (by decide) ?_
    refine j_icmp_ge C0 71 dX7_lowest_11 (by decide) (fun _ => ?_) (fun z => absurd (cl_le (show (6 : Int32).toNatClampNeg = 6 by decide +kernel)) z)
    refine j_iload_n C0 dX7_lowest_71 rfl ?_
    exact j_iretE C0 rfl (by rw [vX7_lowest]) dX7_lowest_72 (fun H h => h)
/-! ## pays(II)V -/
set_option maxRecDepth 100000 in
set_option maxHeartbeats 4000000 in
theorem k_X7_pays {l : Launch} (hl : l.stackTraces = false) {D : va_G} {Y : Nat → ClassId} {A : Nat → Prop} {E : State → Prop} (ad : Nat → Nat) (F : Nat → Int32) (G : Nat → Nat → Int32) (a1 : Int32) (a2 : Int32) (hs1 : vp_in a1 30) : KM l yX7_pays cX7_pays 3 none D Y A E 0 0 0 0 [.ref (ad 0), .int (a1), .int (a2)] (OR D Y A ad F G) none (OR D Y A ad F (hu G 13 (upd (G 13) (a1).toNatClampNeg ((((G 13) (a1).toNatClampNeg) + a2))))) := by
  refine KM_of RX7 [(0, .ref (ad 0)), (1, .int (a1)), (2, .int (a2))] rfl (by decide) hl (Nat.le_of_ble_eq_true rfl) rfl (lok_of rfl rfl) ?_
  intro p e s m args below meth c C0
  refine j_aload_n C0 dX7_pays_0 rfl ?_
  refine r_gf_13 C0 dX7_pays_1 ?_
  refine j_iload_n C0 dX7_pays_4 rfl ?_
  refine j_dup2 C0 dX7_pays_5 rfl rfl ?_
  refine r_ld_13 C0 (v := ((G 13) (a1).toNatClampNeg)) hs1 dX7_pays_6 rfl ?_
  refine j_iload_n C0 dX7_pays_7 rfl ?_
  refine j_iadd C0 dX7_pays_8 ?_
  refine r_st_13 C0 hs1 dX7_pays_9 ?_
  exact j_vret C0 rfl dX7_pays_10 (fun H h => h)
