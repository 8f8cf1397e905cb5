/-! THE REFERENCE'S WORLD: F the numbers by their slots, G the rows by their slots, ad the addresses (0: the object) -/
def hu {α : Type} (f : Nat → α) (k : Nat) (v : α) : Nat → α := fun j => match Nat.beq j k with
  | true => v
  | false => f j
theorem hu_same {α : Type} (f : Nat → α) (k : Nat) (v : α) : hu f k v k = v := by unfold hu; rw [Nat.beq_refl]
theorem hu_ne {α : Type} (f : Nat → α) {k j : Nat} (v : α) (h : j ≠ k) : hu f k v j = f j := by
  unfold hu
  split
  · rename_i hb
    exact absurd (Nat.eq_of_beq_eq_true hb) h
  · rfl
theorem lok_of {L : List (Nat × Value)} (h : lnd L = true) (h2 : (L.all fun q => q.2.category == 1) = true) : lok L := ⟨h, fun q hq => by have := List.all_eq_true.mp h2 q hq; simpa using this⟩
theorem vp_lit {i : Int32} {n : Nat} (h : decide (i < 0 ∨ n ≤ i.toNatClampNeg) = false) : vp_in i n := of_decide_eq_false h
theorem cl_int (x : Int32) : (x.toNatClampNeg : Int) = max 0 x.toInt := by
  show ((x.toInt.toNat : Nat) : Int) = _
  omega
theorem cl_small (x : Int32) : x.toNatClampNeg < 2 ^ 31 := by
  have h := cl_int x
  have h2 := Int32.toInt_lt x
  omega
theorem cl_lt {x : Int32} {j N : Nat} (h : x.toNatClampNeg = N) (hj : j < N) : ¬ x ≤ nI j := by
  have h1 := cl_int x
  have h2 := cl_small x
  rw [Int32.le_iff_toInt_le, nI_toInt (by omega)]
  omega
theorem cl_le {x : Int32} {N : Nat} (h : x.toNatClampNeg = N) : x ≤ nI N := by
  have h1 := cl_int x
  have h2 := cl_small x
  rw [Int32.le_iff_toInt_le, nI_toInt (by omega)]
  omega
theorem nI_inc (j : Nat) : nI j + Int32.ofInt 1 = nI (j + 1) := nI_1 j
theorem vp_nI {j N : Nat} (h : j < N) (hN : N ≤ 4000) : vp_in (nI j) N := vp_in_nI h (by omega)
section RR
variable {p : Program} {l : Launch} {e : Env} {R : Room} {s : State} {m : MethodId} {args : Array Value} {below : List Frame} {meth : Method} {c : Code} {Q : State → Prop} {cells slots pc nL : Nat} {L : List (Nat × Value)} {st : List Value} {cc : ByteArray} {ret : Option FieldType} {D : va_G} {Y : Nat → ClassId} {A : Nat → Prop} {E : State → Prop} {ad : Nat → Nat} {f0 f1 f5 f18 f19 f20 : Int32} {g2 g3 g4 g6 g7 g8 g9 g10 g11 g12 g13 g14 g15 g16 g17 g21 g22 g23 g24 g25 : Nat → Int32}
theorem j_top {Ω : Heap → Prop} {x : Int32} (y : Int32) (h : x = y) (kk : J p l e R s m args below meth c A nL Q Ω cells slots pc L (.int y :: st)) : J p l e R s m args below meth c A nL Q Ω cells slots pc L (.int x :: st) := h ▸ kk
theorem j_iretE {Ω Ω' : Heap → Prop} {own : String} (C0 : CX p l s m args meth c own cc nL ret D Y A E) (hr : ret = some .int) {x v : Int32} (hv : x = v) (d : decode cc pc = .ok (.ireturn, 1)) (hΩ : ∀ H, Ω H → Ω' H) : J p l e R s m args below meth c A nL (MQ below (KQ A Ω' (some (.int x))) args s cells slots A) Ω cells slots pc L [.int v] := by subst hv; exact j_iret C0 hr d hΩ
theorem j_zretE {Ω Ω' : Heap → Prop} {own : String} (C0 : CX p l s m args meth c own cc nL ret D Y A E) (hr : ret = some .boolean) {x v : Int32} (hv : x = v) (hb : narrow .boolean (.int v) = .int v) (d : decode cc pc = .ok (.ireturn, 1)) (hΩ : ∀ H, Ω H → Ω' H) : J p l e R s m args below meth c A nL (MQ below (KQ A Ω' (some (.int x))) args s cells slots A) Ω cells slots pc L [.int v] := by subst hv; exact j_zret C0 hr hb d hΩ
end RR
theorem hb_lp {α : Type} (P : Nat → α → Prop) (f : Nat → α → α) (a : α) (N : Nat) (hs : ∀ j, j < N → P (j + 1) (f j (nf f a j)) → P j (nf f a j)) (hN : P N (nf f a N)) : P 0 a := hb_loop P f a N hN hs

/-! THE REFERENCE'S METHODS: models (v: the answer, s: the state) and contracts -/
def ct (x : Int32) (n : Nat) : Prop := ∃ k, k ≤ n ∧ x = nI k
theorem ct.cl {x : Int32} {n : Nat} (h : ct x n) (hn : n < 2 ^ 31) : x.toNatClampNeg ≤ n := by
  obtain ⟨k, h1, rfl⟩ := h
  rw [nI_clamp (by omega)]
  exact h1
theorem nb_of {v : Int32} (h : v = 0 ∨ v = 1) : narrow .boolean (.int v) = .int v := by rcases h with rfl | rfl <;> rfl
theorem vp_rem12 {x : Int32} {n : Nat} (h : vp_in x n) (hn : n < 2 ^ 31) : vp_in (x - x / (12 : Int32) * (12 : Int32)) 12 := by
  obtain ⟨j, h1, rfl⟩ := vp_in_of h hn
  have := pk_rem (a := j) (d := 12) (by omega) (by decide) (by decide)
  rw [show (12 : Int32) = nI 12 from rfl, this]
  exact vp_in_nI (Nat.mod_lt _ (by decide)) (by decide)
theorem vp_at {N : Nat} {P : Int32 → Prop} {g : Nat → Int32} {j : Nat} (h : ∀ j, j < N → P (g j)) (hj : j < N) (hN : N < 2 ^ 31) : P (g (nI j).toNatClampNeg) := by
  rw [nI_clamp (by omega)]
  exact h j hj
theorem vp_cl {x : Int32} {N : Nat} (h : vp_in x N) : x.toNatClampNeg < N := Nat.not_le.mp fun q => h (Or.inr q)
/-! ## thrown()I -/
def vX7_thrown (F : Nat → Int32) (G : Nat → Nat → Int32) : Int32 := (F 0)
/-! ## holds(I)Z -/
def vX7_holds (F : Nat → Int32) (G : Nat → Nat → Int32) (a1 : Int32) : Int32 := (if a1 = 0 then (1 : Int32) else (0 : Int32))
/-! ## isIn(III)Z -/
def vX7_isIn (a1 : Int32) (a2 : Int32) (a3 : Int32) : Int32 := (if a1 < a2 then (0 : Int32) else (if a3 < a1 then (0 : Int32) else (1 : Int32)))
theorem z_X7_isIn : ∀ a1 a2 a3, vX7_isIn a1 a2 a3 = 0 ∨ vX7_isIn a1 a2 a3 = 1 := by
  intro a1 a2 a3
  unfold vX7_isIn
  repeat' split
  all_goals first | exact Or.inl rfl | exact Or.inr rfl
theorem isIn_t {a b c : Int32} (h : ¬ vX7_isIn a b c = 0) : b ≤ a ∧ a ≤ c := by
  unfold vX7_isIn at h
  split at h
  · exact absurd rfl h
  · split at h
    · exact absurd rfl h
    · rename_i h1 h2
      simp only [Int32.lt_iff_toInt_lt, Int32.le_iff_toInt_le] at *
      omega
theorem isIn_f {a b c : Int32} (h : vX7_isIn a b c = 0) : ¬ (b ≤ a ∧ a ≤ c) := by
  unfold vX7_isIn at h
  simp only [Int32.lt_iff_toInt_lt, Int32.le_iff_toInt_le] at *
  split at h
  · omega
  · split at h
    · omega
    · exact absurd h (by decide)
theorem isIn_vp {a c : Int32} {n : Nat} (h : ¬ vX7_isIn a 0 c = 0) (hc : c.toInt < n) : vp_in a n := by
  have h1 := isIn_t h
  rw [vp_in_iff]
  simp only [Int32.le_iff_toInt_le, Int32.toInt_zero] at h1
  omega
/-! ## isShip(I)Z -/
def vX7_isShip (F : Nat → Int32) (G : Nat → Nat → Int32) (a1 : Int32) : Int32 := (vX7_isIn (a1) ((0 : Int32)) (((F 5) - (1 : Int32))))
theorem z_X7_isShip : ∀ F G a1, vX7_isShip F G a1 = 0 ∨ vX7_isShip F G a1 = 1 := by
  intro F G a1
  unfold vX7_isShip
  repeat' split
  all_goals first | exact Or.inl rfl | exact Or.inr rfl | exact z_X7_isIn _ _ _
theorem isShip_vp {F : Nat → Int32} {G : Nat → Nat → Int32} {a : Int32} (hs : ct (F 5) 30) (h : ¬ vX7_isShip F G a = 0) : vp_in a 30 := by
  obtain ⟨k, h1, h2⟩ := hs
  refine isIn_vp h ?_
  rw [h2, show (1 : Int32) = nI 1 from rfl, pk_sub_toInt (by omega) (by decide)]
  omega
theorem isShip_lt {F : Nat → Int32} {G : Nat → Nat → Int32} {a : Int32} {k : Nat} (hk : k ≤ 30) (h2 : F 5 = nI k) (h : ¬ vX7_isShip F G a = 0) : vp_in a k := by
  refine isIn_vp h ?_
  rw [h2, show (1 : Int32) = nI 1 from rfl, pk_sub_toInt (by omega) (by decide)]
  omega
theorem isShip_no {F : Nat → Int32} {G : Nat → Nat → Int32} {a : Int32} {k : Nat} (hk : k ≤ 30) (h2 : F 5 = nI k) (h : vX7_isShip F G a = 0) : ¬ vp_in a k := by
  have h3 := isIn_f h
  rw [vp_in_iff]
  simp only [Int32.le_iff_toInt_le, Int32.toInt_zero] at h3
  rw [h2, show (1 : Int32) = nI 1 from rfl, pk_sub_toInt (by omega) (by decide)] at h3
  omega
/-! ## isMove(I)Z -/
def vX7_isMove (F : Nat → Int32) (G : Nat → Nat → Int32) (a1 : Int32) : Int32 := (vX7_isIn (a1) ((0 : Int32)) (((F 20) - (1 : Int32))))
theorem z_X7_isMove : ∀ F G a1, vX7_isMove F G a1 = 0 ∨ vX7_isMove F G a1 = 1 := by
  intro F G a1
  unfold vX7_isMove
  repeat' split
  all_goals first | exact Or.inl rfl | exact Or.inr rfl | exact z_X7_isIn _ _ _
theorem isMove_lt {F : Nat → Int32} {G : Nat → Nat → Int32} {a : Int32} {k : Nat} (hk : k ≤ 100) (h2 : F 20 = nI k) (h : ¬ vX7_isMove F G a = 0) : vp_in a k := by
  refine isIn_vp h ?_
  rw [h2, show (1 : Int32) = nI 1 from rfl, pk_sub_toInt (by omega) (by decide)]
  omega
theorem isMove_no {F : Nat → Int32} {G : Nat → Nat → Int32} {a : Int32} {k : Nat} (hk : k ≤ 100) (h2 : F 20 = nI k) (h : vX7_isMove F G a = 0) : ¬ vp_in a k := by
  have h3 := isIn_f h
  rw [vp_in_iff]
  simp only [Int32.le_iff_toInt_le, Int32.toInt_zero] at h3
  rw [h2, show (1 : Int32) = nI 1 from rfl, pk_sub_toInt (by omega) (by decide)] at h3
  omega
theorem vp_mono {a : Int32} {m n : Nat} (h : vp_in a m) (hn : m ≤ n) : vp_in a n := fun q => h (q.imp id (fun z => Nat.le_trans hn z))
/-! ## isPilot(I)Z -/
def vX7_isPilot (a1 : Int32) : Int32 := (vX7_isIn (a1) ((0 : Int32)) ((5 : Int32)))
theorem z_X7_isPilot : ∀ a1, vX7_isPilot a1 = 0 ∨ vX7_isPilot a1 = 1 := by
  intro a1
  unfold vX7_isPilot
  repeat' split
  all_goals first | exact Or.inl rfl | exact Or.inr rfl | exact z_X7_isIn _ _ _
theorem isPilot_vp {a : Int32} (h : ¬ vX7_isPilot a = 0) : vp_in a 6 := isIn_vp h (by decide)
/-- what the state keeps: now, the counts, and that the rows of berths, of moves' ships, of the rota hold numbers of their kinds -/
def RI (F : Nat → Int32) (G : Nat → Nat → Int32) : Prop := ct (F 1) 3000 ∧ ct (F 5) 30 ∧ ct (F 20) 100 ∧ (∀ j, j < 30 → vp_in (G 9 j) 6) ∧ (∀ j, j < 100 → vp_in (G 22 j) 30) ∧ (∀ j, j < 6 → vp_in (G 16 j) 6)
/-! ## depthOf(I)I -/
def vX7_depthOf (F : Nat → Int32) (G : Nat → Nat → Int32) (a1 : Int32) : Int32 := (((G 2) ((a1 - a1 / (12 : Int32) * (12 : Int32))).toNatClampNeg) + ((G 3) (a1).toNatClampNeg))
/-! ## wasUsed(I)Z -/
def bX7_wasUsed_4 (F : Nat → Int32) (G : Nat → Nat → Int32) (a1 : Int32) (j4 : Nat) (v4 : Int32) : Int32 := (if v4 = 0 then (if ((G 9) (((G 22) (nI j4).toNatClampNeg)).toNatClampNeg) = a1 then ((1 : Int32)) else ((0 : Int32))) else ((1 : Int32)))
def vX7_wasUsed (F : Nat → Int32) (G : Nat → Nat → Int32) (a1 : Int32) : Int32 := (nf (bX7_wasUsed_4 F G a1) ((0 : Int32)) ((F 20).toNatClampNeg))
theorem z_X7_wasUsed (F : Nat → Int32) (G : Nat → Nat → Int32) (a1 : Int32) (N : Nat) : nf (bX7_wasUsed_4 F G a1) (0 : Int32) N = 0 ∨ nf (bX7_wasUsed_4 F G a1) (0 : Int32) N = 1 := by
  induction N with
  | zero => exact Or.inl rfl
  | succ n ih =>
    rw [nf, bX7_wasUsed_4]
    repeat' split
    all_goals first | exact Or.inl rfl | exact Or.inr rfl | exact ih
/-! ## floats(II)Z -/
def vX7_floats (F : Nat → Int32) (G : Nat → Nat → Int32) (a1 : Int32) (a2 : Int32) : Int32 := (if ((G 10) (a1).toNatClampNeg) = 0 then (if ((vX7_depthOf F G (a2)) + (30 : Int32)) < (((G 7) (a1).toNatClampNeg) + (5 : Int32)) then (0 : Int32) else (if ((vX7_depthOf F G ((a2 + (1 : Int32)))) + ((G 4) (((G 9) (a1).toNatClampNeg)).toNatClampNeg)) < (((G 7) (a1).toNatClampNeg) + (5 : Int32)) then (0 : Int32) else (1 : Int32))) else (if ((G 10) (a1).toNatClampNeg) = (2 : Int32) then (if ((vX7_depthOf F G (a2)) + ((G 4) (((G 9) (a1).toNatClampNeg)).toNatClampNeg)) < (((G 7) (a1).toNatClampNeg) + (5 : Int32)) then (0 : Int32) else (if ((vX7_depthOf F G ((a2 + (1 : Int32)))) + (30 : Int32)) < (((G 7) (a1).toNatClampNeg) + (5 : Int32)) then (0 : Int32) else (1 : Int32))) else (0 : Int32)))
/-! ## ordered()I -/
def bX7_ordered_4 (F : Nat → Int32) (G : Nat → Nat → Int32) (j4 : Nat) (v4 : Int32) : Int32 := (if ((G 11) (nI j4).toNatClampNeg) = (-1 : Int32) then ((v4 + (0 : Int32))) else ((v4 + (1 : Int32))))
def vX7_ordered (F : Nat → Int32) (G : Nat → Nat → Int32) : Int32 := (nf (bX7_ordered_4 F G) ((0 : Int32)) ((F 5).toNatClampNeg))
/-! ## isAhead(II)Z -/
def vX7_isAhead (F : Nat → Int32) (G : Nat → Nat → Int32) (a1 : Int32) (a2 : Int32) : Int32 := (if ((G 8) (a1).toNatClampNeg) = ((G 8) (a2).toNatClampNeg) then (if ((G 11) (a1).toNatClampNeg) < ((G 11) (a2).toNatClampNeg) then (1 : Int32) else (if ((G 11) (a1).toNatClampNeg) = ((G 11) (a2).toNatClampNeg) then (if a2 ≤ a1 then (0 : Int32) else (1 : Int32)) else (0 : Int32))) else (if ((G 8) (a1).toNatClampNeg) ≤ ((G 8) (a2).toNatClampNeg) then (0 : Int32) else (1 : Int32)))
theorem z_X7_isAhead : ∀ F G a1 a2, vX7_isAhead F G a1 a2 = 0 ∨ vX7_isAhead F G a1 a2 = 1 := by
  intro F G a1 a2
  unfold vX7_isAhead
  repeat' split
  all_goals first | exact Or.inl rfl | exact Or.inr rfl
/-! ## isPilotReady(I)Z -/
def bX7_isPilotReady_7 (F : Nat → Int32) (G : Nat → Nat → Int32) (a1 : Int32) (j7 : Nat) (v7 : Int32 × Int32) : Int32 × Int32 := match v7 with | (v7_0, v7_1) => (if v7_0 = 0 then (if ((G 23) (nI j7).toNatClampNeg) = a1 then (if (6 : Int32) ≤ ((F 1) - ((G 21) (nI j7).toNatClampNeg)) then (if (24 : Int32) ≤ ((F 1) - ((G 21) (nI j7).toNatClampNeg)) then ((0 : Int32), (v7_1 + (0 : Int32))) else ((0 : Int32), (v7_1 + (1 : Int32)))) else (if (24 : Int32) ≤ ((F 1) - ((G 21) (nI j7).toNatClampNeg)) then ((1 : Int32), (v7_1 + (0 : Int32))) else ((1 : Int32), (v7_1 + (1 : Int32))))) else ((0 : Int32), (v7_1 + (0 : Int32)))) else (if ((G 23) (nI j7).toNatClampNeg) = a1 then (if (24 : Int32) ≤ ((F 1) - ((G 21) (nI j7).toNatClampNeg)) then ((1 : Int32), (v7_1 + (0 : Int32))) else ((1 : Int32), (v7_1 + (1 : Int32)))) else ((1 : Int32), (v7_1 + (0 : Int32)))))
def vX7_isPilotReady (F : Nat → Int32) (G : Nat → Nat → Int32) (a1 : Int32) : Int32 := (if (nf (bX7_isPilotReady_7 F G a1) ((0 : Int32), (0 : Int32)) ((F 20).toNatClampNeg)).1 = 0 then (if (3 : Int32) ≤ (nf (bX7_isPilotReady_7 F G a1) ((0 : Int32), (0 : Int32)) ((F 20).toNatClampNeg)).2 then (0 : Int32) else (1 : Int32)) else (0 : Int32))
theorem z_X7_isPilotReady : ∀ F G a1, vX7_isPilotReady F G a1 = 0 ∨ vX7_isPilotReady F G a1 = 1 := by
  intro F G a1
  unfold vX7_isPilotReady
  repeat' split
  all_goals first | exact Or.inl rfl | exact Or.inr rfl
/-! ## tugsNow()I -/
def bX7_tugsNow_33 (F : Nat → Int32) (G : Nat → Nat → Int32) (j4 : Nat) (v4 : Int32) (j33 : Nat) (v33 : Int32) : Int32 := (if v33 = 0 then ((0 : Int32)) else (if ((((G 24) (nI j33).toNatClampNeg) >>> (nI j4 &&& 31)) &&& (1 : Int32)) = 0 then ((1 : Int32)) else (if ((F 1) - ((G 21) (nI j33).toNatClampNeg)) < (3 : Int32) then ((0 : Int32)) else ((1 : Int32)))))
def bX7_tugsNow_4 (F : Nat → Int32) (G : Nat → Nat → Int32) (j4 : Nat) (v4 : Int32) : Int32 := (if ((((F 1) / (8 : Int32)) + nI j4) - (((F 1) / (8 : Int32)) + nI j4) / (3 : Int32) * (3 : Int32)) = 0 then (if (nf (bX7_tugsNow_33 F G j4 v4) ((0 : Int32)) ((F 20).toNatClampNeg)) = 0 then ((v4 ||| (0 : Int32))) else ((v4 ||| ((1 : Int32) <<< (nI j4 &&& 31))))) else (if (nf (bX7_tugsNow_33 F G j4 v4) ((1 : Int32)) ((F 20).toNatClampNeg)) = 0 then ((v4 ||| (0 : Int32))) else ((v4 ||| ((1 : Int32) <<< (nI j4 &&& 31))))))
def vX7_tugsNow (F : Nat → Int32) (G : Nat → Nat → Int32) : Int32 := (nf (bX7_tugsNow_4 F G) ((0 : Int32)) (6))
/-! ## firstReady()I -/
theorem dn_inc (j : Nat) : (5 : Int32) - nI j + Int32.ofInt (-1) = 5 - nI (j + 1) := by
  rw [nI_succ, Int32.sub_eq_add_neg, Int32.sub_eq_add_neg, Int32.neg_add, show Int32.ofInt (-1) = -1 by decide, Int32.sub_eq_add_neg (-nI j) 1, Int32.add_assoc]
theorem dn_eq {j : Nat} (h : j < 6) : (5 : Int32) - nI j = nI (5 - j) := by
  rw [show (5 : Int32) = nI 5 from rfl]
  exact pk_sub (by omega)
theorem dn_pos {j : Nat} (h : j < 6) : ¬ (5 : Int32) - nI j < 0 := by rw [dn_eq h]; exact nI_pos (by omega)
theorem dn_in {j : Nat} (h : j < 6) : vp_in ((5 : Int32) - nI j) 6 := by rw [dn_eq h]; exact vp_in_nI (by omega) (by decide)
def bX7_firstReady_4 (F : Nat → Int32) (G : Nat → Nat → Int32) (j4 : Nat) (v4 : Int32) : Int32 := (if (vX7_isPilotReady F G (((G 16) (((5 : Int32) - nI (j4))).toNatClampNeg))) = 0 then (v4) else (((5 : Int32) - nI (j4))))
def vX7_firstReady (F : Nat → Int32) (G : Nat → Nat → Int32) : Int32 := (nf (bX7_firstReady_4 F G) ((-1 : Int32)) (6))
/-! ## placeOf(I)I -/
def bX7_placeOf_4 (F : Nat → Int32) (G : Nat → Nat → Int32) (a1 : Int32) (j4 : Nat) (v4 : Int32) : Int32 := (if ((G 16) (nI j4).toNatClampNeg) = a1 then (nI j4) else (v4))
def vX7_placeOf (F : Nat → Int32) (G : Nat → Nat → Int32) (a1 : Int32) : Int32 := (nf (bX7_placeOf_4 F G a1) ((-1 : Int32)) (6))
/-! ## isFree(I)Z -/
def bX7_isFree_4 (F : Nat → Int32) (G : Nat → Nat → Int32) (a1 : Int32) (j4 : Nat) (v4 : Int32) : Int32 := (if v4 = 0 then ((0 : Int32)) else (if ((G 9) (nI j4).toNatClampNeg) = a1 then (if ((G 10) (nI j4).toNatClampNeg) = 0 then ((1 : Int32)) else (if ((G 10) (nI j4).toNatClampNeg) = (4 : Int32) then ((1 : Int32)) else ((0 : Int32)))) else ((1 : Int32))))
def vX7_isFree (F : Nat → Int32) (G : Nat → Nat → Int32) (a1 : Int32) : Int32 := (nf (bX7_isFree_4 F G a1) ((1 : Int32)) ((F 5).toNatClampNeg))
theorem z_X7_isFree (F : Nat → Int32) (G : Nat → Nat → Int32) (a1 : Int32) (N : Nat) : nf (bX7_isFree_4 F G a1) (1 : Int32) N = 0 ∨ nf (bX7_isFree_4 F G a1) (1 : Int32) N = 1 := by
  induction N with
  | zero => exact Or.inr rfl
  | succ n ih =>
    rw [nf, bX7_isFree_4]
    repeat' split
    all_goals first | exact Or.inl rfl | exact Or.inr rfl | exact ih
/-! ## lowest(II)I -/
def bX7_lowest_7 (a1 : Int32) (a2 : Int32) (j7 : Nat) (v7 : Int32 × Int32) : Int32 × Int32 := match v7 with | (v7_0, v7_1) => (if ((a1 >>> (nI j7 &&& 31)) &&& (1 : Int32)) = (1 : Int32) then (if a2 ≤ v7_1 then ((v7_0 ||| (0 : Int32)), (v7_1 + (0 : Int32))) else ((v7_0 ||| ((1 : Int32) <<< (nI j7 &&& 31))), (v7_1 + (1 : Int32)))) else ((v7_0 ||| (0 : Int32)), (v7_1 + (0 : Int32))))
def vX7_lowest (a1 : Int32) (a2 : Int32) : Int32 := (nf (bX7_lowest_7 a1 a2) ((0 : Int32), (0 : Int32)) (6)).1
/-! ## pays(II)V -/
theorem j_castL {p : Program} {l : Launch} {e : Env} {R : Room} {s : State} {m : MethodId} {args : Array Value} {below : List Frame} {meth : Method} {c : Code} {A : Nat → Prop} {nL : Nat} {Q : State → Prop} {Ω : Heap → Prop} {cells slots pc : Nat} {L L' : List (Nat × Value)} {st : List Value} (h : L' = L) (kk : J p l e R s m args below meth c A nL Q Ω cells slots pc L' st) : J p l e R s m args below meth c A nL Q Ω cells slots pc L st := h ▸ kk
theorem k_inc (x : Int32) (j : Nat) : x + nI j + Int32.ofInt 1 = x + nI (j + 1) := by rw [Int32.add_assoc, nI_inc]
theorem k_zero (x : Int32) : x + nI 0 = x := by rw [nI_0, Int32.add_zero]
/-- a loop while c -/
def wl {α : Type} (f : α → α) (c : α → Bool) : Nat → α → α
  | 0, a => a
  | n + 1, a => if c a = true then wl f c n (f a) else a
theorem wl_end {α : Type} (f : α → α) (c : α → Bool) (μ : α → Nat) (hμ : ∀ v, c v = true → μ (f v) < μ v) : ∀ (n : Nat) (a : α), μ a ≤ n → c (wl f c n a) = false := by
  intro n
  induction n with
  | zero =>
    intro a h
    cases hc : c a with
    | false => exact hc
    | true => exact absurd (hμ a hc) (by omega)
  | succ n ih =>
    intro a h
    unfold wl
    split
    · rename_i hc
      exact ih _ (by have := hμ a hc; omega)
    · rename_i hc
      exact Bool.eq_false_iff.mpr hc
theorem hb_wl {α : Type} (P : α → Prop) (f : α → α) (c : α → Bool) (hs : ∀ v, c v = true → P (f v) → P v) : ∀ (n : Nat) (a : α), P (wl f c n a) → P a := by
  intro n
  induction n with
  | zero => intro a h; exact h
  | succ n ih =>
    intro a h
    unfold wl at h
    split at h
    · rename_i hc
      exact hs a hc (ih _ h)
    · exact h
/-! ## many(I)I -/
def bX7_many (v : Int32 × Int32) : Int32 × Int32 := (v.1 + (v.2 - v.2 / (2 : Int32) * (2 : Int32)), v.2 / (2 : Int32))
def cX7_manyC (v : Int32 × Int32) : Bool := decide (0 < v.2)
theorem many_mu (v : Int32 × Int32) (h : cX7_manyC v = true) : (bX7_many v).2.toNatClampNeg < v.2.toNatClampNeg := by
  have hp : 0 < v.2 := of_decide_eq_true h
  obtain ⟨j, h1, h2⟩ := nI_of (x := v.2) (by
    rw [Int32.lt_iff_toInt_lt] at hp ⊢
    omega)
  show (v.2 / (2 : Int32)).toNatClampNeg < _
  rw [h2] at hp ⊢
  rw [show (2 : Int32) = nI 2 from rfl, pk_div h1 (by decide) (by decide), nI_clamp (by omega), nI_clamp h1]
  have : 0 < j := by
    rcases Nat.eq_zero_or_pos j with e | e
    · subst e; exact absurd hp (by decide)
    · exact e
  omega
def vX7_many (a1 : Int32) : Int32 := (wl bX7_many cX7_manyC a1.toNatClampNeg ((0 : Int32), a1)).1
/-! ## loses(I)V -/
def sX7_loses (F : Nat → Int32) (G : Nat → Nat → Int32) (a1 : Int32) : (Nat → Int32) × (Nat → Nat → Int32) := (F, (hu (hu (hu (hu G 13 (upd (G 13) (a1).toNatClampNeg (((G 13) (a1).toNatClampNeg) + (100 : Int32)))) 17 (upd (upd (G 17) (((G 16) ((0 : Int32)).toNatClampNeg)).toNatClampNeg ((((G 17) (((G 16) ((0 : Int32)).toNatClampNeg)).toNatClampNeg) + (50 : Int32)))) (((G 16) ((1 : Int32)).toNatClampNeg)).toNatClampNeg ((((upd (G 17) (((G 16) ((0 : Int32)).toNatClampNeg)).toNatClampNeg ((((G 17) (((G 16) ((0 : Int32)).toNatClampNeg)).toNatClampNeg) + (50 : Int32)))) (((G 16) ((1 : Int32)).toNatClampNeg)).toNatClampNeg) + (50 : Int32))))) 14 (upd (G 14) (a1).toNatClampNeg ((((G 14) (a1).toNatClampNeg) + (1 : Int32))))) 11 (upd (G 11) (a1).toNatClampNeg ((-1 : Int32)))))
/-! ## begins(I)V -/
def bX7_begins_15 (F : Nat → Int32) (G : Nat → Nat → Int32) (a1 : Int32) (j15 : Nat) (v15 : (Nat → Int32)) : (Nat → Int32) := ((upd v15 (((vX7_firstReady F G) + nI (j15))).toNatClampNeg ((v15 ((((vX7_firstReady F G) + nI (j15)) + (1 : Int32))).toNatClampNeg))))
def sX7_begins (F : Nat → Int32) (G : Nat → Nat → Int32) (a1 : Int32) : (Nat → Int32) × (Nat → Nat → Int32) := (if ((G 10) (a1).toNatClampNeg) = 0 then ((hu (hu (hu F 20 ((F 20) + (1 : Int32))) 18 ((F 18) + ((30 : Int32) * ((G 6) (a1).toNatClampNeg)))) 19 ((F 19) + ((100 : Int32) * ((G 6) (a1).toNatClampNeg)))), (hu (hu (hu (hu (hu (hu (hu (hu (hu (hu (hu G 16 (upd (nf (bX7_begins_15 F G a1) ((G 16)) (((5 : Int32) - vX7_firstReady F G).toNatClampNeg)) ((5 : Int32)).toNatClampNeg (((G 16) ((vX7_firstReady F G)).toNatClampNeg)))) 21 (upd (G 21) ((F 20)).toNatClampNeg ((F 1)))) 22 (upd (G 22) ((F 20)).toNatClampNeg (a1))) 23 (upd (G 23) ((F 20)).toNatClampNeg (((G 16) ((vX7_firstReady F G)).toNatClampNeg)))) 24 (upd (G 24) ((F 20)).toNatClampNeg ((vX7_lowest ((vX7_tugsNow F (hu (hu (hu (hu G 16 (upd (nf (bX7_begins_15 F G a1) ((G 16)) (((5 : Int32) - vX7_firstReady F G).toNatClampNeg)) ((5 : Int32)).toNatClampNeg (((G 16) ((vX7_firstReady F G)).toNatClampNeg)))) 21 (upd (G 21) ((F 20)).toNatClampNeg ((F 1)))) 22 (upd (G 22) ((F 20)).toNatClampNeg (a1))) 23 (upd (G 23) ((F 20)).toNatClampNeg (((G 16) ((vX7_firstReady F G)).toNatClampNeg)))))) (((G 6) (a1).toNatClampNeg)))))) 25 (upd (G 25) ((F 20)).toNatClampNeg (vp_nar .boolean (0 : Int32)))) 13 (upd (G 13) (a1).toNatClampNeg (((G 13) (a1).toNatClampNeg) + (((50 : Int32) + ((30 : Int32) * ((G 6) (a1).toNatClampNeg))) + ((100 : Int32) * ((G 6) (a1).toNatClampNeg)))))) 17 (upd (G 17) (((G 16) ((vX7_firstReady F G)).toNatClampNeg)).toNatClampNeg ((((G 17) (((G 16) ((vX7_firstReady F G)).toNatClampNeg)).toNatClampNeg) + (50 : Int32))))) 10 (upd (G 10) (a1).toNatClampNeg ((1 : Int32)))) 12 (upd (G 12) (a1).toNatClampNeg ((F 1)))) 11 (upd (G 11) (a1).toNatClampNeg ((-1 : Int32))))) else ((hu (hu (hu F 20 ((F 20) + (1 : Int32))) 18 ((F 18) + ((30 : Int32) * ((G 6) (a1).toNatClampNeg)))) 19 ((F 19) + (0 : Int32))), (hu (hu (hu (hu (hu (hu (hu (hu (hu (hu (hu G 16 (upd (nf (bX7_begins_15 F G a1) ((G 16)) (((5 : Int32) - vX7_firstReady F G).toNatClampNeg)) ((5 : Int32)).toNatClampNeg (((G 16) ((vX7_firstReady F G)).toNatClampNeg)))) 21 (upd (G 21) ((F 20)).toNatClampNeg ((F 1)))) 22 (upd (G 22) ((F 20)).toNatClampNeg (a1))) 23 (upd (G 23) ((F 20)).toNatClampNeg (((G 16) ((vX7_firstReady F G)).toNatClampNeg)))) 24 (upd (G 24) ((F 20)).toNatClampNeg ((vX7_lowest ((vX7_tugsNow F (hu (hu (hu (hu G 16 (upd (nf (bX7_begins_15 F G a1) ((G 16)) (((5 : Int32) - vX7_firstReady F G).toNatClampNeg)) ((5 : Int32)).toNatClampNeg (((G 16) ((vX7_firstReady F G)).toNatClampNeg)))) 21 (upd (G 21) ((F 20)).toNatClampNeg ((F 1)))) 22 (upd (G 22) ((F 20)).toNatClampNeg (a1))) 23 (upd (G 23) ((F 20)).toNatClampNeg (((G 16) ((vX7_firstReady F G)).toNatClampNeg)))))) (((G 6) (a1).toNatClampNeg)))))) 25 (upd (G 25) ((F 20)).toNatClampNeg (vp_nar .boolean (1 : Int32)))) 13 (upd (G 13) (a1).toNatClampNeg (((G 13) (a1).toNatClampNeg) + (((50 : Int32) + ((30 : Int32) * ((G 6) (a1).toNatClampNeg))) + (0 : Int32))))) 17 (upd (G 17) (((G 16) ((vX7_firstReady F G)).toNatClampNeg)).toNatClampNeg ((((G 17) (((G 16) ((vX7_firstReady F G)).toNatClampNeg)).toNatClampNeg) + (50 : Int32))))) 10 (upd (G 10) (a1).toNatClampNeg ((3 : Int32)))) 12 (upd (G 12) (a1).toNatClampNeg ((F 1)))) 11 (upd (G 11) (a1).toNatClampNeg ((-1 : Int32))))))
theorem firstReady_in (F : Nat → Int32) (G : Nat → Nat → Int32) (h : ¬ vX7_firstReady F G = -1) : vp_in (vX7_firstReady F G) 6 := by
  have key : ∀ N, N ≤ 6 → nf (bX7_firstReady_4 F G) (-1 : Int32) N = -1 ∨ vp_in (nf (bX7_firstReady_4 F G) (-1 : Int32) N) 6 := by
    intro N
    induction N with
    | zero => intro _; exact Or.inl rfl
    | succ n ih =>
      intro hn
      rw [nf, bX7_firstReady_4]
      split
      · exact ih (by omega)
      · exact Or.inr (dn_in (by omega))
  exact (key 6 (by decide)).resolve_left h
/-! ## looksAt(I)V -/
theorem cnt_lt {x : Int32} (h : ct x 100) (h2 : ¬ (100 : Int32) ≤ x) : vp_in x 100 := by
  obtain ⟨k, h1, rfl⟩ := h
  have : k < 100 := by
    rcases Nat.lt_or_ge k 100 with q | q
    · exact q
    · exact absurd (nI_le (a := 100) (b := k) q (by omega)) h2
  exact vp_in_nI this (by decide)
def sX7_looksAt (F : Nat → Int32) (G : Nat → Nat → Int32) (a1 : Int32) : (Nat → Int32) × (Nat → Nat → Int32) := (if (vX7_floats F G (a1) ((F 1))) = 0 then (if ((G 11) (a1).toNatClampNeg) = (F 1) then ((sX7_loses F G (a1)).1, (sX7_loses F G (a1)).2) else (if ((F 1) - ((G 11) (a1).toNatClampNeg)) < (3 : Int32) then (F, G) else (F, (hu (hu G 15 (upd (G 15) (a1).toNatClampNeg ((((G 15) (a1).toNatClampNeg) + (1 : Int32))))) 11 (upd (G 11) (a1).toNatClampNeg ((-1 : Int32))))))) else (if ((G 10) (a1).toNatClampNeg) = (2 : Int32) then (if (100 : Int32) ≤ (F 20) then (if ((F 1) - ((G 11) (a1).toNatClampNeg)) < (3 : Int32) then (F, G) else (F, (hu (hu G 15 (upd (G 15) (a1).toNatClampNeg ((((G 15) (a1).toNatClampNeg) + (1 : Int32))))) 11 (upd (G 11) (a1).toNatClampNeg ((-1 : Int32)))))) else (if (vX7_firstReady F G) = (-1 : Int32) then (if ((F 1) - ((G 11) (a1).toNatClampNeg)) < (3 : Int32) then (F, G) else (F, (hu (hu G 15 (upd (G 15) (a1).toNatClampNeg ((((G 15) (a1).toNatClampNeg) + (1 : Int32))))) 11 (upd (G 11) (a1).toNatClampNeg ((-1 : Int32)))))) else (if (vX7_many ((vX7_tugsNow F G))) < ((G 6) (a1).toNatClampNeg) then (if ((F 1) - ((G 11) (a1).toNatClampNeg)) < (3 : Int32) then (F, G) else (F, (hu (hu G 15 (upd (G 15) (a1).toNatClampNeg ((((G 15) (a1).toNatClampNeg) + (1 : Int32))))) 11 (upd (G 11) (a1).toNatClampNeg ((-1 : Int32)))))) else ((sX7_begins F G (a1)).1, (sX7_begins F G (a1)).2)))) else (if (vX7_isFree F G (((G 9) (a1).toNatClampNeg))) = 0 then (if ((F 1) - ((G 11) (a1).toNatClampNeg)) < (3 : Int32) then (F, G) else (F, (hu (hu G 15 (upd (G 15) (a1).toNatClampNeg ((((G 15) (a1).toNatClampNeg) + (1 : Int32))))) 11 (upd (G 11) (a1).toNatClampNeg ((-1 : Int32)))))) else (if (100 : Int32) ≤ (F 20) then (if ((F 1) - ((G 11) (a1).toNatClampNeg)) < (3 : Int32) then (F, G) else (F, (hu (hu G 15 (upd (G 15) (a1).toNatClampNeg ((((G 15) (a1).toNatClampNeg) + (1 : Int32))))) 11 (upd (G 11) (a1).toNatClampNeg ((-1 : Int32)))))) else (if (vX7_firstReady F G) = (-1 : Int32) then (if ((F 1) - ((G 11) (a1).toNatClampNeg)) < (3 : Int32) then (F, G) else (F, (hu (hu G 15 (upd (G 15) (a1).toNatClampNeg ((((G 15) (a1).toNatClampNeg) + (1 : Int32))))) 11 (upd (G 11) (a1).toNatClampNeg ((-1 : Int32)))))) else (if (vX7_many ((vX7_tugsNow F G))) < ((G 6) (a1).toNatClampNeg) then (if ((F 1) - ((G 11) (a1).toNatClampNeg)) < (3 : Int32) then (F, G) else (F, (hu (hu G 15 (upd (G 15) (a1).toNatClampNeg ((((G 15) (a1).toNatClampNeg) + (1 : Int32))))) 11 (upd (G 11) (a1).toNatClampNeg ((-1 : Int32)))))) else ((sX7_begins F G (a1)).1, (sX7_begins F G (a1)).2)))))))
theorem rot_in {F : Nat → Int32} {G : Nat → Nat → Int32} {a1 : Int32} {pn : Nat} (hpe : vX7_firstReady F G = nI pn) (hpn : pn < 6) (hr : ∀ j, j < 6 → vp_in (G 16 j) 6) : ∀ N, N ≤ 5 - pn → ∀ j, j < 6 → vp_in (nf (bX7_begins_15 F G a1) (G 16) N j) 6 := by
  intro N
  induction N with
  | zero => intro _; exact hr
  | succ n ih =>
    intro hn j hj
    rw [nf, bX7_begins_15]
    unfold upd
    split
    · refine ih (by omega) _ ?_
      rw [hpe, nI_add, nI_1, nI_clamp (by omega)]
      omega
    · exact ih (by omega) j hj
theorem begins_inv {F : Nat → Int32} {G : Nat → Nat → Int32} {a1 : Int32} (hI : RI F G) (hs1 : vp_in a1 30) (hp : vp_in (vX7_firstReady F G) 6) (hc : vp_in (F 20) 100) : RI (sX7_begins F G a1).1 (sX7_begins F G a1).2 ∧ (sX7_begins F G a1).1 1 = F 1 ∧ (sX7_begins F G a1).1 5 = F 5 := by
  obtain ⟨hn, hs, hm, hb, hw, hr⟩ := hI
  obtain ⟨pn, hpn, hpe⟩ := vp_in_of hp (by decide)
  obtain ⟨k, hk, hke⟩ := vp_in_of hc (by decide)
  have hN : ((5 : Int32) - vX7_firstReady F G).toNatClampNeg = 5 - pn := by rw [hpe, show (5 : Int32) = nI 5 from rfl, pk_sub (by omega), nI_clamp (by omega)]
  have h20 : ct (F 20 + (1 : Int32)) 100 := ⟨k + 1, hk, by rw [hke, nI_1]⟩
  have h22 : ∀ j, j < 100 → vp_in (upd (G 22) (F 20).toNatClampNeg a1 j) 30 := by
    intro j hj
    unfold upd
    split
    · exact hs1
    · exact hw j hj
  have h16 : ∀ j, j < 6 → vp_in (upd (nf (bX7_begins_15 F G a1) (G 16) ((5 : Int32) - vX7_firstReady F G).toNatClampNeg) (5 : Int32).toNatClampNeg (G 16 (vX7_firstReady F G).toNatClampNeg) j) 6 := by
    intro j hj
    unfold upd
    split
    · exact hr _ (vp_cl hp)
    · exact rot_in hpe hpn hr _ (by rw [hN]; exact Nat.le_refl _) j hj
  unfold sX7_begins
  split
  · exact ⟨⟨hn, hs, h20, hb, h22, h16⟩, rfl, rfl⟩
  · exact ⟨⟨hn, hs, h20, hb, h22, h16⟩, rfl, rfl⟩
theorem looksAt_inv {F : Nat → Int32} {G : Nat → Nat → Int32} {a1 : Int32} (hI : RI F G) (hs1 : vp_in a1 30) : RI (sX7_looksAt F G a1).1 (sX7_looksAt F G a1).2 ∧ (sX7_looksAt F G a1).1 1 = F 1 ∧ (sX7_looksAt F G a1).1 5 = F 5 := by
  obtain ⟨hn, hs, hm, hb, hw, hr⟩ := id hI
  unfold sX7_looksAt
  repeat' split
  all_goals first
    | exact ⟨hI, rfl, rfl⟩
    | exact ⟨⟨hn, hs, hm, hb, hw, hr⟩, rfl, rfl⟩
    | exact begins_inv hI hs1 (firstReady_in F G (by assumption)) (cnt_lt hm (by assumption))
def PI (F : Nat → Int32) (v : Int32 × (Nat → Int32) × (Nat → Nat → Int32)) : Prop := RI v.2.1 v.2.2 ∧ v.2.1 1 = F 1 + (1 : Int32) ∧ v.2.1 5 = F 5
/-! ## passes()V -/
def bX7_passes_12 (F : Nat → Int32) (G : Nat → Nat → Int32) (j12 : Nat) (v12 : Int32 × (Nat → Int32) × (Nat → Int32)) : Int32 × (Nat → Int32) × (Nat → Int32) := match v12 with | (v12_0, v12_1, v12_2) => (if (v12_1 (nI j12).toNatClampNeg) = (1 : Int32) then (if (((F 1) + (1 : Int32)) - ((G 12) (nI j12).toNatClampNeg)) < (2 : Int32) then (if ((upd v12_1 (nI j12).toNatClampNeg (((v12_1 (nI j12).toNatClampNeg) + (0 : Int32)))) (nI j12).toNatClampNeg) = (2 : Int32) then ((v12_0 + ((5 : Int32) * ((G 6) (nI j12).toNatClampNeg))), (upd v12_1 (nI j12).toNatClampNeg (((v12_1 (nI j12).toNatClampNeg) + (0 : Int32)))), (upd v12_2 (nI j12).toNatClampNeg ((v12_2 (nI j12).toNatClampNeg) + ((5 : Int32) * ((G 6) (nI j12).toNatClampNeg))))) else (v12_0, (upd v12_1 (nI j12).toNatClampNeg (((v12_1 (nI j12).toNatClampNeg) + (0 : Int32)))), v12_2)) else (if ((upd v12_1 (nI j12).toNatClampNeg (((v12_1 (nI j12).toNatClampNeg) + (1 : Int32)))) (nI j12).toNatClampNeg) = (2 : Int32) then ((v12_0 + ((5 : Int32) * ((G 6) (nI j12).toNatClampNeg))), (upd v12_1 (nI j12).toNatClampNeg (((v12_1 (nI j12).toNatClampNeg) + (1 : Int32)))), (upd v12_2 (nI j12).toNatClampNeg ((v12_2 (nI j12).toNatClampNeg) + ((5 : Int32) * ((G 6) (nI j12).toNatClampNeg))))) else (v12_0, (upd v12_1 (nI j12).toNatClampNeg (((v12_1 (nI j12).toNatClampNeg) + (1 : Int32)))), v12_2))) else (if (v12_1 (nI j12).toNatClampNeg) = (3 : Int32) then (if (((F 1) + (1 : Int32)) - ((G 12) (nI j12).toNatClampNeg)) < (2 : Int32) then (if ((upd v12_1 (nI j12).toNatClampNeg (((v12_1 (nI j12).toNatClampNeg) + (0 : Int32)))) (nI j12).toNatClampNeg) = (2 : Int32) then ((v12_0 + ((5 : Int32) * ((G 6) (nI j12).toNatClampNeg))), (upd v12_1 (nI j12).toNatClampNeg (((v12_1 (nI j12).toNatClampNeg) + (0 : Int32)))), (upd v12_2 (nI j12).toNatClampNeg ((v12_2 (nI j12).toNatClampNeg) + ((5 : Int32) * ((G 6) (nI j12).toNatClampNeg))))) else (v12_0, (upd v12_1 (nI j12).toNatClampNeg (((v12_1 (nI j12).toNatClampNeg) + (0 : Int32)))), v12_2)) else (if ((upd v12_1 (nI j12).toNatClampNeg (((v12_1 (nI j12).toNatClampNeg) + (1 : Int32)))) (nI j12).toNatClampNeg) = (2 : Int32) then ((v12_0 + ((5 : Int32) * ((G 6) (nI j12).toNatClampNeg))), (upd v12_1 (nI j12).toNatClampNeg (((v12_1 (nI j12).toNatClampNeg) + (1 : Int32)))), (upd v12_2 (nI j12).toNatClampNeg ((v12_2 (nI j12).toNatClampNeg) + ((5 : Int32) * ((G 6) (nI j12).toNatClampNeg))))) else (v12_0, (upd v12_1 (nI j12).toNatClampNeg (((v12_1 (nI j12).toNatClampNeg) + (1 : Int32)))), v12_2))) else (if ((upd v12_1 (nI j12).toNatClampNeg (((v12_1 (nI j12).toNatClampNeg) + (0 : Int32)))) (nI j12).toNatClampNeg) = (2 : Int32) then ((v12_0 + ((5 : Int32) * ((G 6) (nI j12).toNatClampNeg))), (upd v12_1 (nI j12).toNatClampNeg (((v12_1 (nI j12).toNatClampNeg) + (0 : Int32)))), (upd v12_2 (nI j12).toNatClampNeg ((v12_2 (nI j12).toNatClampNeg) + ((5 : Int32) * ((G 6) (nI j12).toNatClampNeg))))) else (v12_0, (upd v12_1 (nI j12).toNatClampNeg (((v12_1 (nI j12).toNatClampNeg) + (0 : Int32)))), v12_2))))
def bX7_passes_142 (F : Nat → Int32) (G : Nat → Nat → Int32) (j129 : Nat) (v129_0 : Int32) (v129_1 : Nat → Int32) (v129_2 : Nat → Nat → Int32) (j142 : Nat) (v142 : Int32) : Int32 := (if ((v129_2 11) (nI j142).toNatClampNeg) = (-1 : Int32) then (v142) else (if (v129_1 1) < ((v129_2 11) (nI j142).toNatClampNeg) then (v142) else (if ((v129_0 >>> (nI j142 &&& 31)) &&& (1 : Int32)) = 0 then (if v142 = (-1 : Int32) then (nI j142) else (if (vX7_isAhead v129_1 v129_2 (nI j142) (v142)) = 0 then (v142) else (nI j142))) else (v142))))
def bX7_passes_129 (F : Nat → Int32) (G : Nat → Nat → Int32) (j129 : Nat) (v129 : Int32 × (Nat → Int32) × (Nat → Nat → Int32)) : Int32 × (Nat → Int32) × (Nat → Nat → Int32) := match v129 with | (v129_0, v129_1, v129_2) => (if (nf (bX7_passes_142 F G j129 v129_0 v129_1 v129_2) ((-1 : Int32)) (((v129_1 5)).toNatClampNeg)) = (-1 : Int32) then (v129_0, v129_1, v129_2) else ((v129_0 ||| ((1 : Int32) <<< ((nf (bX7_passes_142 F G j129 v129_0 v129_1 v129_2) ((-1 : Int32)) (((v129_1 5)).toNatClampNeg)) &&& 31))), (sX7_looksAt v129_1 v129_2 ((nf (bX7_passes_142 F G j129 v129_0 v129_1 v129_2) ((-1 : Int32)) (((v129_1 5)).toNatClampNeg)))).1, (sX7_looksAt v129_1 v129_2 ((nf (bX7_passes_142 F G j129 v129_0 v129_1 v129_2) ((-1 : Int32)) (((v129_1 5)).toNatClampNeg)))).2))
def sX7_passes (F : Nat → Int32) (G : Nat → Nat → Int32) : (Nat → Int32) × (Nat → Nat → Int32) := ((nf (bX7_passes_129 F G) ((0 : Int32), (hu (hu F 1 ((F 1) + (1 : Int32))) 19 (nf (bX7_passes_12 F G) ((F 19), (G 10), (G 13)) ((F 5).toNatClampNeg)).1), (hu (hu G 10 (nf (bX7_passes_12 F G) ((F 19), (G 10), (G 13)) ((F 5).toNatClampNeg)).2.1) 13 (nf (bX7_passes_12 F G) ((F 19), (G 10), (G 13)) ((F 5).toNatClampNeg)).2.2)) (((F 5)).toNatClampNeg)).2.1, (nf (bX7_passes_129 F G) ((0 : Int32), (hu (hu F 1 ((F 1) + (1 : Int32))) 19 (nf (bX7_passes_12 F G) ((F 19), (G 10), (G 13)) ((F 5).toNatClampNeg)).1), (hu (hu G 10 (nf (bX7_passes_12 F G) ((F 19), (G 10), (G 13)) ((F 5).toNatClampNeg)).2.1) 13 (nf (bX7_passes_12 F G) ((F 19), (G 10), (G 13)) ((F 5).toNatClampNeg)).2.2)) (((F 5)).toNatClampNeg)).2.2)
theorem passes_in (F : Nat → Int32) (G : Nat → Nat → Int32) (j129 : Nat) (v0 : Int32) (v1 : Nat → Int32) (v2 : Nat → Nat → Int32) : ∀ N, N ≤ 30 → nf (bX7_passes_142 F G j129 v0 v1 v2) (-1 : Int32) N = -1 ∨ vp_in (nf (bX7_passes_142 F G j129 v0 v1 v2) (-1 : Int32) N) 30 := by
  intro N
  induction N with
  | zero => intro _; exact Or.inl rfl
  | succ n ih =>
    intro hn
    rw [nf, bX7_passes_142]
    repeat' split
    all_goals first | exact ih (by omega) | exact Or.inr (vp_in_nI (by omega) (by decide))
theorem passes_inv (F : Nat → Int32) (G : Nat → Nat → Int32) (init : Int32 × (Nat → Int32) × (Nat → Nat → Int32)) (h0 : PI F init) : ∀ N, PI F (nf (bX7_passes_129 F G) init N) := by
  intro N
  induction N with
  | zero => exact h0
  | succ n ih =>
    rw [nf]
    generalize nf (bX7_passes_129 F G) init n = v at ih ⊢
    obtain ⟨v0, v1, v2⟩ := v
    obtain ⟨h1, h2, h3⟩ := ih
    dsimp only at h1 h2 h3
    rw [bX7_passes_129]
    have hin := passes_in F G n v0 v1 v2 (v1 5).toNatClampNeg (h1.2.1.cl (by decide))
    split
    · exact ⟨h1, h2, h3⟩
    · rename_i hq
      obtain ⟨k1, k2, k3⟩ := looksAt_inv h1 (hin.resolve_left hq)
      exact ⟨k1, k2.trans h2, k3.trans h3⟩
theorem passes_RI {F : Nat → Int32} {G : Nat → Nat → Int32} (hI : RI F G) (hn1 : ct (F 1 + (1 : Int32)) 3000) : RI (sX7_passes F G).1 (sX7_passes F G).2 ∧ (sX7_passes F G).1 1 = F 1 + (1 : Int32) ∧ (sX7_passes F G).1 5 = F 5 := by
  obtain ⟨hn, hs, hm, hb, hw, hr⟩ := id hI
  unfold sX7_passes
  refine passes_inv F G _ ?_ _
  exact ⟨⟨hn1, hs, hm, hb, hw, hr⟩, rfl, rfl⟩

theorem isIn_next {a : Int32} (h : ¬ vX7_isIn a (0 : Int32) (3000 : Int32) = 0) : vp_in (a + (1 : Int32)) 3160 := by
  obtain ⟨k, h1, rfl⟩ := vp_in_of (isIn_vp (n := 3001) h (by decide)) (by decide)
  rw [nI_1]
  exact vp_in_nI (by omega) (by decide)
theorem shp_in {x : Int32} (h : ct x 30) (h2 : ¬ x = (30 : Int32)) : vp_in x 30 := by
  obtain ⟨k, h1, rfl⟩ := h
  refine vp_in_nI ?_ (by decide)
  rcases Nat.lt_or_ge k 30 with q | q
  · exact q
  · exact absurd (show nI k = 30 by rw [show k = 30 by omega]; rfl) h2
theorem wind_facts {x : Int32} {a b : Int32} (hn : ct x 3000) (h1 : ¬ vX7_isIn a (x + (3 : Int32)) (3100 : Int32) = 0) (h2 : ¬ vX7_isIn b (1 : Int32) (48 : Int32) = 0) : ∃ u v : Nat, u ≤ 3100 ∧ v ≤ 48 ∧ a = nI u ∧ b = nI v := by
  obtain ⟨n, hn1, rfl⟩ := hn
  have k1 := isIn_t h1
  have k2 := isIn_t h2
  rw [show (3 : Int32) = nI 3 from rfl, nI_add] at k1
  simp only [Int32.le_iff_toInt_le] at k1 k2
  rw [nI_toInt (by omega)] at k1
  have e1 : (3100 : Int32).toInt = 3100 := by decide
  have e2 : (48 : Int32).toInt = 48 := by decide
  have e3 : (1 : Int32).toInt = 1 := by decide
  obtain ⟨u, hu, eu⟩ := vp_in_of (x := a) (n := 3101) (vp_in_iff.mpr (by omega)) (by decide)
  obtain ⟨v, hv, ev⟩ := vp_in_of (x := b) (n := 49) (vp_in_iff.mpr (by omega)) (by decide)
  exact ⟨u, v, by omega, by omega, eu, ev⟩
theorem pass_facts {x a : Int32} (hn : ct x 3000) (h1 : ¬ vX7_isIn a (1 : Int32) (100 : Int32) = 0) (h2 : x + a ≤ (3000 : Int32)) : ∃ n u : Nat, x = nI n ∧ a = nI u ∧ 1 ≤ u ∧ u ≤ 100 ∧ n + u ≤ 3000 := by
  obtain ⟨n, hn1, rfl⟩ := hn
  have k1 := isIn_t h1
  simp only [Int32.le_iff_toInt_le] at k1
  have e1 : (100 : Int32).toInt = 100 := by decide
  have e3 : (1 : Int32).toInt = 1 := by decide
  obtain ⟨u, hu, eu⟩ := vp_in_of (x := a) (n := 101) (vp_in_iff.mpr (by omega)) (by decide)
  subst eu
  rw [nI_toInt (by omega)] at k1
  rw [nI_add, show (3000 : Int32) = nI 3000 from rfl, nI_leI (by omega) (by decide)] at h2
  exact ⟨n, u, rfl, rfl, by omega, by omega, h2⟩
/-! ## table(II)I -/
def vX7_table (F : Nat → Int32) (G : Nat → Nat → Int32) (a1 : Int32) (a2 : Int32) : Int32 := (if (vX7_isIn (a1) ((0 : Int32)) ((11 : Int32))) = 0 then (0 : Int32) else (if (vX7_isIn (a2) ((0 : Int32)) ((150 : Int32))) = 0 then (0 : Int32) else (if (F 20) ≤ 0 then ((G 2) (a1).toNatClampNeg) else (0 : Int32))))
def sX7_table (F : Nat → Int32) (G : Nat → Nat → Int32) (a1 : Int32) (a2 : Int32) : (Nat → Int32) × (Nat → Nat → Int32) := (if (vX7_isIn (a1) ((0 : Int32)) ((11 : Int32))) = 0 then ((hu F 0 (1 : Int32)), G) else (if (vX7_isIn (a2) ((0 : Int32)) ((150 : Int32))) = 0 then ((hu F 0 (2 : Int32)), G) else (if (F 20) ≤ 0 then ((hu F 0 (0 : Int32)), (hu G 2 (upd (G 2) (a1).toNatClampNeg (a2)))) else ((hu F 0 (3 : Int32)), G))))
/-! ## wind(III)I -/
def bX7_wind_62 (F : Nat → Int32) (G : Nat → Nat → Int32) (a1 : Int32) (a2 : Int32) (a3 : Int32) (j62 : Nat) (v62 : (Nat → Int32)) : (Nat → Int32) := ((upd v62 ((a1 + nI (j62))).toNatClampNeg (a3)))
def vX7_wind (F : Nat → Int32) (G : Nat → Nat → Int32) (a1 : Int32) (a2 : Int32) (a3 : Int32) : Int32 := (if (vX7_isIn (a1) (((F 1) + (3 : Int32))) ((3100 : Int32))) = 0 then (0 : Int32) else (if (vX7_isIn (a2) ((1 : Int32)) ((48 : Int32))) = 0 then (0 : Int32) else (if (vX7_isIn (a3) ((-40 : Int32)) ((40 : Int32))) = 0 then (0 : Int32) else ((G 3) (a1).toNatClampNeg))))
def sX7_wind (F : Nat → Int32) (G : Nat → Nat → Int32) (a1 : Int32) (a2 : Int32) (a3 : Int32) : (Nat → Int32) × (Nat → Nat → Int32) := (if (vX7_isIn (a1) (((F 1) + (3 : Int32))) ((3100 : Int32))) = 0 then ((hu F 0 (1 : Int32)), G) else (if (vX7_isIn (a2) ((1 : Int32)) ((48 : Int32))) = 0 then ((hu F 0 (1 : Int32)), G) else (if (vX7_isIn (a3) ((-40 : Int32)) ((40 : Int32))) = 0 then ((hu F 0 (1 : Int32)), G) else ((hu F 0 (0 : Int32)), (hu G 3 (nf (bX7_wind_62 F G a1 a2 a3) ((G 3)) ((a2).toNatClampNeg)))))))
/-! ## depth(I)I -/
def vX7_depth (F : Nat → Int32) (G : Nat → Nat → Int32) (a1 : Int32) : Int32 := (if (vX7_isIn (a1) ((0 : Int32)) ((3100 : Int32))) = 0 then (0 : Int32) else (vX7_depthOf (hu F 0 (0 : Int32)) G (a1)))
def sX7_depth (F : Nat → Int32) (G : Nat → Nat → Int32) (a1 : Int32) : (Nat → Int32) × (Nat → Nat → Int32) := (if (vX7_isIn (a1) ((0 : Int32)) ((3100 : Int32))) = 0 then ((hu F 0 (1 : Int32)), G) else ((hu F 0 (0 : Int32)), G))
/-! ## berth(II)I -/
def vX7_berth (F : Nat → Int32) (G : Nat → Nat → Int32) (a1 : Int32) (a2 : Int32) : Int32 := (if (vX7_isIn (a1) ((0 : Int32)) ((5 : Int32))) = 0 then (0 : Int32) else (if (vX7_isIn (a2) ((0 : Int32)) ((200 : Int32))) = 0 then (0 : Int32) else (if (vX7_wasUsed F G (a1)) = 0 then ((G 4) (a1).toNatClampNeg) else (0 : Int32))))
def sX7_berth (F : Nat → Int32) (G : Nat → Nat → Int32) (a1 : Int32) (a2 : Int32) : (Nat → Int32) × (Nat → Nat → Int32) := (if (vX7_isIn (a1) ((0 : Int32)) ((5 : Int32))) = 0 then ((hu F 0 (1 : Int32)), G) else (if (vX7_isIn (a2) ((0 : Int32)) ((200 : Int32))) = 0 then ((hu F 0 (2 : Int32)), G) else (if (vX7_wasUsed F G (a1)) = 0 then ((hu F 0 (0 : Int32)), (hu G 4 (upd (G 4) (a1).toNatClampNeg (a2)))) else ((hu F 0 (3 : Int32)), G))))
/-! ## ship(IIII)I -/
def vX7_ship (F : Nat → Int32) (G : Nat → Nat → Int32) (a1 : Int32) (a2 : Int32) (a3 : Int32) (a4 : Int32) : Int32 := (if (vX7_isIn (a1) ((1 : Int32)) ((4 : Int32))) = 0 then (if (vX7_isIn (a4) ((0 : Int32)) ((5 : Int32))) = 0 then (0 : Int32) else (0 : Int32)) else (if (vX7_isIn (a2) ((10 : Int32)) ((150 : Int32))) = 0 then (if (vX7_isIn (a4) ((0 : Int32)) ((5 : Int32))) = 0 then (0 : Int32) else (0 : Int32)) else (if (vX7_isIn (a3) ((0 : Int32)) ((3 : Int32))) = 0 then (if (vX7_isIn (a4) ((0 : Int32)) ((5 : Int32))) = 0 then (0 : Int32) else (0 : Int32)) else (if (vX7_isIn (a4) ((0 : Int32)) ((5 : Int32))) = 0 then (0 : Int32) else (if (F 5) = (30 : Int32) then (0 : Int32) else (((F 5) + (1 : Int32)) - (1 : Int32)))))))
def sX7_ship (F : Nat → Int32) (G : Nat → Nat → Int32) (a1 : Int32) (a2 : Int32) (a3 : Int32) (a4 : Int32) : (Nat → Int32) × (Nat → Nat → Int32) := (if (vX7_isIn (a1) ((1 : Int32)) ((4 : Int32))) = 0 then (if (vX7_isIn (a4) ((0 : Int32)) ((5 : Int32))) = 0 then ((hu F 0 (1 : Int32)), G) else ((hu F 0 (2 : Int32)), G)) else (if (vX7_isIn (a2) ((10 : Int32)) ((150 : Int32))) = 0 then (if (vX7_isIn (a4) ((0 : Int32)) ((5 : Int32))) = 0 then ((hu F 0 (1 : Int32)), G) else ((hu F 0 (2 : Int32)), G)) else (if (vX7_isIn (a3) ((0 : Int32)) ((3 : Int32))) = 0 then (if (vX7_isIn (a4) ((0 : Int32)) ((5 : Int32))) = 0 then ((hu F 0 (1 : Int32)), G) else ((hu F 0 (2 : Int32)), G)) else (if (vX7_isIn (a4) ((0 : Int32)) ((5 : Int32))) = 0 then ((hu F 0 (1 : Int32)), G) else (if (F 5) = (30 : Int32) then ((hu F 0 (3 : Int32)), G) else ((hu (hu F 0 (0 : Int32)) 5 ((F 5) + (1 : Int32))), (hu (hu (hu (hu (hu G 6 (upd (G 6) ((F 5)).toNatClampNeg (a1))) 7 (upd (G 7) ((F 5)).toNatClampNeg (a2))) 8 (upd (G 8) ((F 5)).toNatClampNeg (a3))) 9 (upd (G 9) ((F 5)).toNatClampNeg (a4))) 11 (upd (G 11) ((F 5)).toNatClampNeg ((-1 : Int32))))))))))
/-! ## order(II)I -/
def vX7_order (F : Nat → Int32) (G : Nat → Nat → Int32) (a1 : Int32) (a2 : Int32) : Int32 := (if (vX7_isShip F G (a1)) = 0 then (0 : Int32) else (if ((G 10) (a1).toNatClampNeg) = 0 then (if ((G 11) (a1).toNatClampNeg) = (-1 : Int32) then (if (vX7_isIn (a2) (((F 1) + (1 : Int32))) ((3000 : Int32))) = 0 then (0 : Int32) else (vX7_ordered (hu F 0 (0 : Int32)) (hu G 11 (upd (G 11) (a1).toNatClampNeg (a2))))) else (if (vX7_isIn (a2) (((F 1) + (1 : Int32))) ((3000 : Int32))) = 0 then (0 : Int32) else (0 : Int32))) else (if ((G 10) (a1).toNatClampNeg) = (2 : Int32) then (if ((G 11) (a1).toNatClampNeg) = (-1 : Int32) then (if (vX7_isIn (a2) (((F 1) + (1 : Int32))) ((3000 : Int32))) = 0 then (0 : Int32) else (vX7_ordered (hu F 0 (0 : Int32)) (hu G 11 (upd (G 11) (a1).toNatClampNeg (a2))))) else (if (vX7_isIn (a2) (((F 1) + (1 : Int32))) ((3000 : Int32))) = 0 then (0 : Int32) else (0 : Int32))) else (if (vX7_isIn (a2) (((F 1) + (1 : Int32))) ((3000 : Int32))) = 0 then (0 : Int32) else (0 : Int32)))))
def sX7_order (F : Nat → Int32) (G : Nat → Nat → Int32) (a1 : Int32) (a2 : Int32) : (Nat → Int32) × (Nat → Nat → Int32) := (if (vX7_isShip F G (a1)) = 0 then ((hu F 0 (1 : Int32)), G) else (if ((G 10) (a1).toNatClampNeg) = 0 then (if ((G 11) (a1).toNatClampNeg) = (-1 : Int32) then (if (vX7_isIn (a2) (((F 1) + (1 : Int32))) ((3000 : Int32))) = 0 then ((hu F 0 (2 : Int32)), G) else ((hu F 0 (0 : Int32)), (hu G 11 (upd (G 11) (a1).toNatClampNeg (a2))))) else (if (vX7_isIn (a2) (((F 1) + (1 : Int32))) ((3000 : Int32))) = 0 then ((hu F 0 (2 : Int32)), G) else ((hu F 0 (3 : Int32)), G))) else (if ((G 10) (a1).toNatClampNeg) = (2 : Int32) then (if ((G 11) (a1).toNatClampNeg) = (-1 : Int32) then (if (vX7_isIn (a2) (((F 1) + (1 : Int32))) ((3000 : Int32))) = 0 then ((hu F 0 (2 : Int32)), G) else ((hu F 0 (0 : Int32)), (hu G 11 (upd (G 11) (a1).toNatClampNeg (a2))))) else (if (vX7_isIn (a2) (((F 1) + (1 : Int32))) ((3000 : Int32))) = 0 then ((hu F 0 (2 : Int32)), G) else ((hu F 0 (3 : Int32)), G))) else (if (vX7_isIn (a2) (((F 1) + (1 : Int32))) ((3000 : Int32))) = 0 then ((hu F 0 (2 : Int32)), G) else ((hu F 0 (3 : Int32)), G)))))
/-! ## cancel(I)I -/
def vX7_cancel (F : Nat → Int32) (G : Nat → Nat → Int32) (a1 : Int32) : Int32 := (if (vX7_isShip F G (a1)) = 0 then (0 : Int32) else (if ((G 11) (a1).toNatClampNeg) = (-1 : Int32) then (0 : Int32) else ((G 11) (a1).toNatClampNeg)))
def sX7_cancel (F : Nat → Int32) (G : Nat → Nat → Int32) (a1 : Int32) : (Nat → Int32) × (Nat → Nat → Int32) := (if (vX7_isShip F G (a1)) = 0 then ((hu F 0 (1 : Int32)), G) else (if ((G 11) (a1).toNatClampNeg) = (-1 : Int32) then ((hu F 0 (2 : Int32)), G) else ((hu F 0 (0 : Int32)), (hu G 11 (upd (G 11) (a1).toNatClampNeg ((-1 : Int32)))))))
/-! ## hasWater(II)Z -/
def vX7_hasWater (F : Nat → Int32) (G : Nat → Nat → Int32) (a1 : Int32) (a2 : Int32) : Int32 := (if (vX7_isShip F G (a1)) = 0 then (0 : Int32) else (if (vX7_isIn (a2) ((0 : Int32)) ((3000 : Int32))) = 0 then (0 : Int32) else (if (vX7_floats (hu F 0 (0 : Int32)) G (a1) (a2)) = 0 then (0 : Int32) else (1 : Int32))))
def sX7_hasWater (F : Nat → Int32) (G : Nat → Nat → Int32) (a1 : Int32) (a2 : Int32) : (Nat → Int32) × (Nat → Nat → Int32) := (if (vX7_isShip F G (a1)) = 0 then ((hu F 0 (1 : Int32)), G) else (if (vX7_isIn (a2) ((0 : Int32)) ((3000 : Int32))) = 0 then ((hu F 0 (2 : Int32)), G) else (if (vX7_floats (hu F 0 (0 : Int32)) G (a1) (a2)) = 0 then ((hu F 0 (0 : Int32)), G) else ((hu F 0 (0 : Int32)), G))))
/-! ## state(I)I -/
def vX7_state (F : Nat → Int32) (G : Nat → Nat → Int32) (a1 : Int32) : Int32 := (if (vX7_isShip F G (a1)) = 0 then (0 : Int32) else ((G 10) (a1).toNatClampNeg))
def sX7_state (F : Nat → Int32) (G : Nat → Nat → Int32) (a1 : Int32) : (Nat → Int32) × (Nat → Nat → Int32) := (if (vX7_isShip F G (a1)) = 0 then ((hu F 0 (1 : Int32)), G) else ((hu F 0 (0 : Int32)), G))
/-! ## paid(I)I -/
def vX7_paid (F : Nat → Int32) (G : Nat → Nat → Int32) (a1 : Int32) : Int32 := (if (vX7_isShip F G (a1)) = 0 then (0 : Int32) else ((G 13) (a1).toNatClampNeg))
def sX7_paid (F : Nat → Int32) (G : Nat → Nat → Int32) (a1 : Int32) : (Nat → Int32) × (Nat → Nat → Int32) := (if (vX7_isShip F G (a1)) = 0 then ((hu F 0 (1 : Int32)), G) else ((hu F 0 (0 : Int32)), G))
/-! ## lost(I)I -/
def vX7_lost (F : Nat → Int32) (G : Nat → Nat → Int32) (a1 : Int32) : Int32 := (if (vX7_isShip F G (a1)) = 0 then (0 : Int32) else ((G 14) (a1).toNatClampNeg))
def sX7_lost (F : Nat → Int32) (G : Nat → Nat → Int32) (a1 : Int32) : (Nat → Int32) × (Nat → Nat → Int32) := (if (vX7_isShip F G (a1)) = 0 then ((hu F 0 (1 : Int32)), G) else ((hu F 0 (0 : Int32)), G))
/-! ## claims(I)I -/
def vX7_claims (F : Nat → Int32) (G : Nat → Nat → Int32) (a1 : Int32) : Int32 := (if (vX7_isShip F G (a1)) = 0 then (0 : Int32) else ((G 15) (a1).toNatClampNeg))
def sX7_claims (F : Nat → Int32) (G : Nat → Nat → Int32) (a1 : Int32) : (Nat → Int32) × (Nat → Nat → Int32) := (if (vX7_isShip F G (a1)) = 0 then ((hu F 0 (1 : Int32)), G) else ((hu F 0 (0 : Int32)), G))
/-! ## queue(I)I -/
def bX7_queue_26 (F : Nat → Int32) (G : Nat → Nat → Int32) (a1 : Int32) (j26 : Nat) (v26 : Int32) : Int32 := (if ((G 11) (nI j26).toNatClampNeg) = (-1 : Int32) then ((v26 + (0 : Int32))) else (if (vX7_isAhead (hu F 0 (0 : Int32)) G (nI j26) (a1)) = 0 then ((v26 + (0 : Int32))) else ((v26 + (1 : Int32)))))
def vX7_queue (F : Nat → Int32) (G : Nat → Nat → Int32) (a1 : Int32) : Int32 := (if (vX7_isShip F G (a1)) = 0 then (0 : Int32) else (if ((G 11) (a1).toNatClampNeg) = (-1 : Int32) then (-1 : Int32) else (nf (bX7_queue_26 F G a1) ((0 : Int32)) ((F 5).toNatClampNeg))))
def sX7_queue (F : Nat → Int32) (G : Nat → Nat → Int32) (a1 : Int32) : (Nat → Int32) × (Nat → Nat → Int32) := (if (vX7_isShip F G (a1)) = 0 then ((hu F 0 (1 : Int32)), G) else (if ((G 11) (a1).toNatClampNeg) = (-1 : Int32) then ((hu F 0 (0 : Int32)), G) else ((hu F 0 (0 : Int32)), G)))
theorem placeOf_in {F : Nat → Int32} {G : Nat → Nat → Int32} {a : Int32} (h : ∃ j, j < 6 ∧ G 16 j = a) : vp_in (vX7_placeOf F G a) 6 := by
  obtain ⟨j, hj, he⟩ := h
  have key : ∀ N, N ≤ 6 → (j < N → vp_in (nf (bX7_placeOf_4 F G a) (-1 : Int32) N) 6) := by
    intro N
    induction N with
    | zero => intro _ h; omega
    | succ n ih =>
      intro hn hjn
      rw [nf, bX7_placeOf_4]
      split
      · exact vp_in_nI (by omega) (by decide)
      · rename_i hq
        rw [nI_clamp (by omega)] at hq
        refine ih (by omega) ?_
        rcases Nat.lt_or_ge j n with q | q
        · exact q
        · have : j = n := by omega
          subst this
          exact absurd he hq
  exact key 6 (by decide) hj
/-! ## swap(II)I -/
def vX7_swap (F : Nat → Int32) (G : Nat → Nat → Int32) (a1 : Int32) (a2 : Int32) : Int32 := (if (vX7_isPilot (a1)) = 0 then (0 : Int32) else (if (vX7_isPilot (a2)) = 0 then (0 : Int32) else (if a1 = a2 then (0 : Int32) else (vX7_placeOf (hu F 0 (0 : Int32)) G (a2)))))
def sX7_swap (F : Nat → Int32) (G : Nat → Nat → Int32) (a1 : Int32) (a2 : Int32) : (Nat → Int32) × (Nat → Nat → Int32) := (if (vX7_isPilot (a1)) = 0 then ((hu F 0 (1 : Int32)), G) else (if (vX7_isPilot (a2)) = 0 then ((hu F 0 (1 : Int32)), G) else (if a1 = a2 then ((hu F 0 (2 : Int32)), G) else ((hu F 0 (0 : Int32)), (hu G 16 (upd (upd (G 16) ((vX7_placeOf (hu F 0 (0 : Int32)) G (a1))).toNatClampNeg (a2)) ((vX7_placeOf (hu F 0 (0 : Int32)) G (a2))).toNatClampNeg (a1)))))))
/-! ## rota(I)I -/
def vX7_rota (F : Nat → Int32) (G : Nat → Nat → Int32) (a1 : Int32) : Int32 := (if (vX7_isPilot (a1)) = 0 then (0 : Int32) else ((G 16) (a1).toNatClampNeg))
def sX7_rota (F : Nat → Int32) (G : Nat → Nat → Int32) (a1 : Int32) : (Nat → Int32) × (Nat → Nat → Int32) := (if (vX7_isPilot (a1)) = 0 then ((hu F 0 (1 : Int32)), G) else ((hu F 0 (0 : Int32)), G))
/-! ## earned(I)I -/
def vX7_earned (F : Nat → Int32) (G : Nat → Nat → Int32) (a1 : Int32) : Int32 := (if (vX7_isPilot (a1)) = 0 then (0 : Int32) else ((G 17) (a1).toNatClampNeg))
def sX7_earned (F : Nat → Int32) (G : Nat → Nat → Int32) (a1 : Int32) : (Nat → Int32) × (Nat → Nat → Int32) := (if (vX7_isPilot (a1)) = 0 then ((hu F 0 (1 : Int32)), G) else ((hu F 0 (0 : Int32)), G))
/-! ## isReady(I)Z -/
def vX7_isReady (F : Nat → Int32) (G : Nat → Nat → Int32) (a1 : Int32) : Int32 := (if (vX7_isPilot (a1)) = 0 then (0 : Int32) else (if (vX7_isPilotReady (hu F 0 (0 : Int32)) G (a1)) = 0 then (0 : Int32) else (1 : Int32)))
def sX7_isReady (F : Nat → Int32) (G : Nat → Nat → Int32) (a1 : Int32) : (Nat → Int32) × (Nat → Nat → Int32) := (if (vX7_isPilot (a1)) = 0 then ((hu F 0 (1 : Int32)), G) else (if (vX7_isPilotReady (hu F 0 (0 : Int32)) G (a1)) = 0 then ((hu F 0 (0 : Int32)), G) else ((hu F 0 (0 : Int32)), G)))
/-! ## tugs()I -/
def vX7_tugs (F : Nat → Int32) (G : Nat → Nat → Int32) : Int32 := (vX7_tugsNow (hu F 0 (0 : Int32)) G)
def sX7_tugs (F : Nat → Int32) (G : Nat → Nat → Int32) : (Nat → Int32) × (Nat → Nat → Int32) := ((hu F 0 (0 : Int32)), G)
/-! ## moves()I -/
def vX7_moves (F : Nat → Int32) (G : Nat → Nat → Int32) : Int32 := (F 20)
def sX7_moves (F : Nat → Int32) (G : Nat → Nat → Int32) : (Nat → Int32) × (Nat → Nat → Int32) := ((hu F 0 (0 : Int32)), G)
/-! ## tugPay()I -/
def vX7_tugPay (F : Nat → Int32) (G : Nat → Nat → Int32) : Int32 := (F 18)
def sX7_tugPay (F : Nat → Int32) (G : Nat → Nat → Int32) : (Nat → Int32) × (Nat → Nat → Int32) := ((hu F 0 (0 : Int32)), G)
/-! ## port()I -/
def vX7_port (F : Nat → Int32) (G : Nat → Nat → Int32) : Int32 := (F 19)
def sX7_port (F : Nat → Int32) (G : Nat → Nat → Int32) : (Nat → Int32) × (Nat → Nat → Int32) := ((hu F 0 (0 : Int32)), G)
/-! ## move(I)I -/
def vX7_move (F : Nat → Int32) (G : Nat → Nat → Int32) (a1 : Int32) : Int32 := (if (vX7_isMove F G (a1)) = 0 then (0 : Int32) else (if ((G 25) (a1).toNatClampNeg) = 0 then (((((10000 : Int32) * ((G 21) (a1).toNatClampNeg)) + ((100 : Int32) * ((G 22) (a1).toNatClampNeg))) + ((10 : Int32) * ((G 23) (a1).toNatClampNeg))) + (0 : Int32)) else (((((10000 : Int32) * ((G 21) (a1).toNatClampNeg)) + ((100 : Int32) * ((G 22) (a1).toNatClampNeg))) + ((10 : Int32) * ((G 23) (a1).toNatClampNeg))) + (1 : Int32))))
def sX7_move (F : Nat → Int32) (G : Nat → Nat → Int32) (a1 : Int32) : (Nat → Int32) × (Nat → Nat → Int32) := (if (vX7_isMove F G (a1)) = 0 then ((hu F 0 (1 : Int32)), G) else (if ((G 25) (a1).toNatClampNeg) = 0 then ((hu F 0 (0 : Int32)), G) else ((hu F 0 (0 : Int32)), G)))
/-! ## isSound(I)Z -/
def vX7_isSound (F : Nat → Int32) (G : Nat → Nat → Int32) (a1 : Int32) : Int32 := (if (vX7_isMove F G (a1)) = 0 then (0 : Int32) else (1 : Int32))
def sX7_isSound (F : Nat → Int32) (G : Nat → Nat → Int32) (a1 : Int32) : (Nat → Int32) × (Nat → Nat → Int32) := (if (vX7_isMove F G (a1)) = 0 then ((hu F 0 (1 : Int32)), G) else ((hu F 0 (0 : Int32)), G))
/-! ## payClaim(I)I -/
def vX7_payClaim (F : Nat → Int32) (G : Nat → Nat → Int32) (a1 : Int32) : Int32 := (if (vX7_isShip F G (a1)) = 0 then (0 : Int32) else (if ((G 15) (a1).toNatClampNeg) = 0 then (0 : Int32) else ((80 : Int32) * ((G 6) (a1).toNatClampNeg))))
def sX7_payClaim (F : Nat → Int32) (G : Nat → Nat → Int32) (a1 : Int32) : (Nat → Int32) × (Nat → Nat → Int32) := (if (vX7_isShip F G (a1)) = 0 then ((hu F 0 (1 : Int32)), G) else (if ((G 15) (a1).toNatClampNeg) = 0 then ((hu F 0 (2 : Int32)), G) else ((hu (hu F 0 (0 : Int32)) 19 ((F 19) - ((80 : Int32) * ((G 6) (a1).toNatClampNeg)))), (hu (hu G 15 (upd (G 15) (a1).toNatClampNeg ((((G 15) (a1).toNatClampNeg) - (1 : Int32))))) 13 (upd (G 13) (a1).toNatClampNeg ((((G 13) (a1).toNatClampNeg) - ((80 : Int32) * ((G 6) (a1).toNatClampNeg)))))))))
def PS (F : Nat → Int32) (n : Nat) (v : (Nat → Int32) × (Nat → Nat → Int32)) : Prop := RI v.1 v.2 ∧ v.1 1 = F 1 + nI n ∧ v.1 5 = F 5
/-! ## pass(I)I -/
def bX7_pass_47 (F : Nat → Int32) (G : Nat → Nat → Int32) (a1 : Int32) (j47 : Nat) (v47 : (Nat → Int32) × (Nat → Nat → Int32)) : (Nat → Int32) × (Nat → Nat → Int32) := match v47 with | (v47_0, v47_1) => ((sX7_passes v47_0 v47_1).1, (sX7_passes v47_0 v47_1).2)
def vX7_pass (F : Nat → Int32) (G : Nat → Nat → Int32) (a1 : Int32) : Int32 := (if (vX7_isIn (a1) ((1 : Int32)) ((100 : Int32))) = 0 then (0 : Int32) else (if ((F 1) + a1) ≤ (3000 : Int32) then (((nf (bX7_pass_47 F G a1) ((hu F 0 (0 : Int32)), G) ((a1).toNatClampNeg)).1 20) - (F 20)) else (0 : Int32)))
def sX7_pass (F : Nat → Int32) (G : Nat → Nat → Int32) (a1 : Int32) : (Nat → Int32) × (Nat → Nat → Int32) := (if (vX7_isIn (a1) ((1 : Int32)) ((100 : Int32))) = 0 then ((hu F 0 (1 : Int32)), G) else (if ((F 1) + a1) ≤ (3000 : Int32) then ((nf (bX7_pass_47 F G a1) ((hu F 0 (0 : Int32)), G) ((a1).toNatClampNeg)).1, (nf (bX7_pass_47 F G a1) ((hu F 0 (0 : Int32)), G) ((a1).toNatClampNeg)).2) else ((hu F 0 (2 : Int32)), G)))
theorem pass_inv (F : Nat → Int32) (G : Nat → Nat → Int32) (a1 : Int32) {n u : Nat} (ea : F 1 = nI n) (hle : n + u ≤ 3000) (init : (Nat → Int32) × (Nat → Nat → Int32)) (h0 : PS F 0 init) : ∀ N, N ≤ u → PS F N (nf (bX7_pass_47 F G a1) init N) := by
  intro N
  induction N with
  | zero => intro _; exact h0
  | succ k ih =>
    intro hk
    have ih := ih (by omega)
    rw [nf]
    generalize nf (bX7_pass_47 F G a1) init k = v at ih ⊢
    obtain ⟨v0, v1⟩ := v
    obtain ⟨h1, h2, h3⟩ := ih
    dsimp only at h1 h2 h3
    have hc : ct (v0 1 + (1 : Int32)) 3000 := ⟨n + k + 1, by omega, by rw [h2, ea, nI_add, nI_1]⟩
    obtain ⟨k1, k2, k3⟩ := passes_RI h1 hc
    rw [bX7_pass_47]
    exact ⟨k1, by rw [k2, h2, Int32.add_assoc, nI_1], k3.trans h3⟩
