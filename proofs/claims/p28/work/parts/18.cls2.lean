theorem LI.congr {tE : Nat} {Y : Nat → ClassId} {cel : NMs} {kl ka la aa k : Nat} {mc : Int32} {g g' : Nat → Nat} (h : LI tE Y cel kl ka la mc aa k g) (he : ∀ j, j < k → g j = g' j) : LI tE Y cel kl ka la mc aa k g' := ⟨h.1, h.2.imp id (fun ⟨cap, f, a, b, c, d, f9⟩ => ⟨cap, f, a, b, c, d, fun j hj => (f9 j hj).trans (congrArg some (he j hj))⟩)⟩
theorem insG_map (s : Nat → Nat) (q : Nat → Nat) (i v j : Nat) : insG (fun j => s (q j)) i (s v) j = s (insG q i v j) := by
  unfold insG
  split
  · rfl
  · split <;> rfl
theorem delG_map (s : Nat → Nat) (q : Nat → Nat) (i j : Nat) : delG (fun j => s (q j)) i j = s (delG q i j) := by
  unfold delG
  split <;> rfl
theorem insG_lt {q : Nat → Nat} {i v n M : Nat} (hi : i ≤ n) (h : ∀ j, j < n → q j < M) (hv : v < M) : ∀ j, j < n + 1 → insG q i v j < M := by
  intro j hj
  unfold insG
  split
  · exact h j (by omega)
  · split
    · exact hv
    · exact h _ (by omega)
theorem delG_lt {q : Nat → Nat} {i n M : Nat} (h : ∀ j, j < n → q j < M) : ∀ j, j < n - 1 → delG q i j < M := by
  intro j hj
  unfold delG
  split
  · exact h j (by omega)
  · exact h _ (by omega)
section CL2
variable {l : Launch} {D : va_G} {Y : Nat → ClassId} {A : Nat → Prop} {E : State → Prop} {tE mi : Nat} {ad : Nat → Nat} {x0 x1 x2 : Int32} {g0 g1 g2 g3 g4 g5 g6 g7 g8 g9 g10 g11 g12 g13 g14 g15 g16 g17 g18 g19 : Nat → Int32} {n0 n1 n2 : Nat} {q0 q1 sa ma : Nat → Nat}
theorem kc_insert (hsl : l.stackTraces = false) (hE : ∀ U, E U → EC A tE mi U) {i v : Nat} (hi : i ≤ n2) (hv : v < n0) (h9 : n2 < 100) : KM l yJx4a65c_add_7a177 cJx4a65c_add_7a177 5 none D Y A E 5 190 1 160 [.ref (ad 14), .int (nI i), .ref (sa v)] (CO D Y A tE ad x0 x1 x2 g0 g1 g2 g3 g4 g5 g6 g7 g8 g9 g10 g11 g12 g13 g14 g15 g16 g17 g18 g19 n0 n1 n2 q0 q1 sa ma) none (CO D Y A tE ad x0 x1 x2 g0 g1 g2 g3 g4 g5 g6 g7 g8 g9 g10 g11 g12 g13 g14 g15 g16 g17 g18 g19 n0 n1 (n2 + 1) (insG q0 i v) q1 sa ma) := by
  refine KM.cwE (fun cel h => ?_) (fun cel h r H hr => ?_) (Ψ := fun cel => LPo tE D Y A cel 14 15 (ad 14) (n2 + 1) (insG (fun j => sa (q0 j)) i (sa v)) none)
  · obtain ⟨mc, aa, hL⟩ := ci_Q h
    exact k_Jx4a65c_addI hsl hE (by decide) hL (by omega) hi (fun j hj => ⟨20 + 2 * q0 j, 7, _, (RX4, TX4, 11), by omega, by omega, ci_s h (q0 j) ((ci_f h).2.2.2.1 j hj), rfl, w_cast_X4⟩) ⟨20 + 2 * v, 7, _, (RX4, TX4, 11), by omega, by omega, ci_s h v hv, rfl, w_cast_X4⟩ (ci_16 h) (by decide) (by decide)
  · obtain ⟨q, cel', mc, e1, hL, hf, hN⟩ := hr
    exact ⟨e1, cel', ⟨(hf (0) (by omega) (by omega)).trans (ci_0 h), (hf (1) (by omega) (by omega)).trans (ci_1 h), (hf (2) (by omega) (by omega)).trans (ci_2 h), (hf (3) (by omega) (by omega)).trans (ci_3 h), (hf (5) (by omega) (by omega)).trans (ci_5 h), (hf (6) (by omega) (by omega)).trans (ci_6 h), (hf (7) (by omega) (by omega)).trans (ci_7 h), (hf (8) (by omega) (by omega)).trans (ci_8 h), (hf (9) (by omega) (by omega)).trans (ci_9 h), (hf (10) (by omega) (by omega)).trans (ci_10 h), (hf (16) (by omega) (by omega)).trans (ci_16 h), (ci_S h).imp fun mc h1 => h1.imp fun aa h2 => h2.of (hf (4) (by omega) (by omega)) (hf (11) (by omega) (by omega)), (ci_M h).imp fun mc h1 => h1.imp fun aa h2 => h2.of (hf (12) (by omega) (by omega)) (hf (13) (by omega) (by omega)), ⟨mc, q, hL.congr (fun j hj => insG_map sa q0 i v j)⟩, fun i9 hi9 => (hf (20 + 2 * i9) (by omega) (by omega)).trans (ci_s h i9 hi9), fun i9 hi9 => (hf (21 + 2 * i9) (by omega) (by omega)).trans (ci_m h i9 hi9), ⟨(ci_f h).1, (ci_f h).2.1, by omega, insG_lt hi (ci_f h).2.2.2.1 hv, (ci_f h).2.2.2.2⟩⟩, hN⟩
theorem kc_remove (hsl : l.stackTraces = false) (hE : ∀ U, E U → EC A tE mi U) {i : Nat} (hi : i < n2) : KM l yJx4a65c_remove_915e3 cJx4a65c_remove_915e3 4 (some (.object "java/lang/Object")) D Y A E 2 110 0 0 [.ref (ad 14), .int (nI i)] (CO D Y A tE ad x0 x1 x2 g0 g1 g2 g3 g4 g5 g6 g7 g8 g9 g10 g11 g12 g13 g14 g15 g16 g17 g18 g19 n0 n1 n2 q0 q1 sa ma) (some (.ref (sa (q0 i)))) (CO D Y A tE ad x0 x1 x2 g0 g1 g2 g3 g4 g5 g6 g7 g8 g9 g10 g11 g12 g13 g14 g15 g16 g17 g18 g19 n0 n1 (n2 - 1) (delG q0 i) q1 sa ma) := by
  refine KM.cwE (fun cel h => ?_) (fun cel h r H hr => ?_) (Ψ := fun cel => LPo tE D Y A cel 14 15 (ad 14) (n2 - 1) (delG (fun j => sa (q0 j)) i) (some (.ref (sa (q0 i)))))
  · obtain ⟨mc, aa, hL⟩ := ci_Q h
    exact k_Jx4a65c_LIremove hsl hE (by decide) hL hi (fun j hj => ⟨20 + 2 * q0 j, 7, _, (RX4, TX4, 11), by omega, by omega, ci_s h (q0 j) ((ci_f h).2.2.2.1 j hj), rfl, w_cast_X4⟩)
  · obtain ⟨q, cel', mc, e1, hL, hf, hN⟩ := hr
    exact ⟨e1, cel', ⟨(hf (0) (by omega) (by omega)).trans (ci_0 h), (hf (1) (by omega) (by omega)).trans (ci_1 h), (hf (2) (by omega) (by omega)).trans (ci_2 h), (hf (3) (by omega) (by omega)).trans (ci_3 h), (hf (5) (by omega) (by omega)).trans (ci_5 h), (hf (6) (by omega) (by omega)).trans (ci_6 h), (hf (7) (by omega) (by omega)).trans (ci_7 h), (hf (8) (by omega) (by omega)).trans (ci_8 h), (hf (9) (by omega) (by omega)).trans (ci_9 h), (hf (10) (by omega) (by omega)).trans (ci_10 h), (hf (16) (by omega) (by omega)).trans (ci_16 h), (ci_S h).imp fun mc h1 => h1.imp fun aa h2 => h2.of (hf (4) (by omega) (by omega)) (hf (11) (by omega) (by omega)), (ci_M h).imp fun mc h1 => h1.imp fun aa h2 => h2.of (hf (12) (by omega) (by omega)) (hf (13) (by omega) (by omega)), ⟨mc, q, hL.congr (fun j hj => delG_map sa q0 i j)⟩, fun i9 hi9 => (hf (20 + 2 * i9) (by omega) (by omega)).trans (ci_s h i9 hi9), fun i9 hi9 => (hf (21 + 2 * i9) (by omega) (by omega)).trans (ci_m h i9 hi9), ⟨(ci_f h).1, (ci_f h).2.1, Nat.le_trans (Nat.sub_le _ _) (ci_f h).2.2.1, delG_lt (ci_f h).2.2.2.1, (ci_f h).2.2.2.2⟩⟩, hN⟩
/-- a move that is not noted yet -/
def MVN (n1 q : Nat) (a0 : Int32) (r : Nat) (a2 a3 a4 : Int32) (cel : NMs) : Prop := cel (21 + 2 * n1) = some (q, .inr (4, [.int a0, .ref r, .int a2, .int a3, .int a4]))
theorem kc_addM (hsl : l.stackTraces = false) (hE : ∀ U, E U → EC A tE mi U) {q v : Nat} {a0 a2 a3 a4 : Int32} (hv : v < n0) (h9 : n1 < 100) : KM l yJx4a65c_add_9ea2d cJx4a65c_add_9ea2d 2 (some .boolean) D Y A E 6 230 1 160 [.ref (ad 12), .ref q] (CW D A (fun cel => CIV Y tE ad x0 x1 x2 g0 g1 g2 g3 g4 g5 g6 g7 g8 g9 g10 g11 g12 g13 g14 g15 g16 g17 g18 g19 n0 n1 n2 q0 q1 sa ma cel ∧ MVN n1 q a0 (sa v) a2 a3 a4 cel)) (some (.int 1)) (CO D Y A tE ad x0 x1 x2 g0 g1 g2 g3 g4 g5 g6 g7 g8 g9 g10 g11 g12 g13 g14 g15 (upd g16 n1 a0) (upd g17 n1 a2) (upd g18 n1 a3) (upd g19 n1 a4) n0 (n1 + 1) n2 q0 (va_up q1 n1 v) sa (va_up ma n1 q)) := by
  refine KM.cwE (fun cel h => ?_) (fun cel h r H hr => ?_) (Ψ := fun cel => LPo tE D Y A cel 12 13 (ad 12) (n1 + 1) (va_up ma n1 q) (some (.int 1)))
  · obtain ⟨mc, aa, hL⟩ := ci_M h.1
    exact k_Jx4a65c_add_9ea2d hsl hE (by decide) hL (by omega) (fun j hj => ⟨21 + 2 * j, 4, _, (RX1, TX1, 5), by omega, by omega, ci_m h.1 j hj, rfl, w_cast_X1⟩) ⟨21 + 2 * n1, 4, _, (RX1, TX1, 5), by omega, by omega, h.2, rfl, w_cast_X1⟩ (ci_16 h.1) (by decide) (by decide)
  · obtain ⟨q9, cel', mc, e1, hL, hf, hN⟩ := hr
    obtain ⟨h, h2⟩ := h
    refine ⟨e1, cel', ?_, hN⟩
    exact ⟨(hf (0) (by omega) (by omega)).trans (ci_0 h), (hf (1) (by omega) (by omega)).trans (ci_1 h), (hf (2) (by omega) (by omega)).trans (ci_2 h), (hf (3) (by omega) (by omega)).trans (ci_3 h), (hf (5) (by omega) (by omega)).trans (ci_5 h), (hf (6) (by omega) (by omega)).trans (ci_6 h), (hf (7) (by omega) (by omega)).trans (ci_7 h), (hf (8) (by omega) (by omega)).trans (ci_8 h), (hf (9) (by omega) (by omega)).trans (ci_9 h), (hf (10) (by omega) (by omega)).trans (ci_10 h), (hf (16) (by omega) (by omega)).trans (ci_16 h), (ci_S h).imp fun mc h1 => h1.imp fun aa h2 => h2.of (hf (4) (by omega) (by omega)) (hf (11) (by omega) (by omega)), ⟨mc, q9, hL⟩, (ci_Q h).imp fun mc h1 => h1.imp fun aa h2 => h2.of (hf (14) (by omega) (by omega)) (hf (15) (by omega) (by omega)), fun i9 hi9 => (hf (20 + 2 * i9) (by omega) (by omega)).trans (ci_s h i9 hi9), fun i9 hi9 => by
      by_cases e : i9 = n1
      · subst e
        rw [up_same, up_s, up_same, up_s, up_s, up_s]
        exact (hf (21 + 2 * i9) (by omega) (by omega)).trans h2
      · rw [up_ne _ _ e, up_n e, up_ne _ _ e, up_n e, up_n e, up_n e]
        exact (hf (21 + 2 * i9) (by omega) (by omega)).trans (ci_m h i9 (by omega)), ⟨(ci_f h).1, by omega, (ci_f h).2.2.1, (ci_f h).2.2.2.1, fun j hj => by
      by_cases e : j = n1
      · subst e
        rw [up_same]
        exact hv
      · rw [up_ne _ _ e]
        exact (ci_f h).2.2.2.2 j (by omega)⟩⟩
/-- a ship that is not in the row yet -/
def SHW (n0 q : Nat) (a0 a1 a2 a3 a4 a5 a6 a7 a8 a9 a10 : Int32) (cel : NMs) : Prop := cel (20 + 2 * n0) = some (q, .inr (7, [.int a0, .int a1, .int a2, .int a3, .int a4, .int a5, .int a6, .int a7, .int a8, .int a9, .int a10]))
theorem kc_addS (hsl : l.stackTraces = false) (hE : ∀ U, E U → EC A tE mi U) {q : Nat} {a0 a1 a2 a3 a4 a5 a6 a7 a8 a9 a10 : Int32} (h9 : n0 < 30) : KM l yJx4a65c_add_9ea2d cJx4a65c_add_9ea2d 2 (some .boolean) D Y A E 6 230 1 160 [.ref (ad 4), .ref q] (CW D A (fun cel => CIV Y tE ad x0 x1 x2 g0 g1 g2 g3 g4 g5 g6 g7 g8 g9 g10 g11 g12 g13 g14 g15 g16 g17 g18 g19 n0 n1 n2 q0 q1 sa ma cel ∧ SHW n0 q a0 a1 a2 a3 a4 a5 a6 a7 a8 a9 a10 cel)) (some (.int 1)) (CO D Y A tE ad x0 x1 x2 g0 g1 g2 g3 g4 (upd g5 n0 a0) (upd g6 n0 a1) (upd g7 n0 a2) (upd g8 n0 a3) (upd g9 n0 a4) (upd g10 n0 a5) (upd g11 n0 a6) (upd g12 n0 a7) (upd g13 n0 a8) (upd g14 n0 a9) (upd g15 n0 a10) g16 g17 g18 g19 (n0 + 1) n1 n2 q0 q1 (va_up sa n0 q) ma) := by
  refine KM.cwE (fun cel h => ?_) (fun cel h r H hr => ?_) (Ψ := fun cel => LPo tE D Y A cel 4 11 (ad 4) (n0 + 1) (va_up sa n0 q) (some (.int 1)))
  · obtain ⟨mc, aa, hL⟩ := ci_S h.1
    exact k_Jx4a65c_add_9ea2d hsl hE (by decide) hL (by omega) (fun j hj => ⟨20 + 2 * j, 7, _, (RX4, TX4, 11), by omega, by omega, ci_s h.1 j hj, rfl, w_cast_X4⟩) ⟨20 + 2 * n0, 7, _, (RX4, TX4, 11), by omega, by omega, h.2, rfl, w_cast_X4⟩ (ci_16 h.1) (by decide) (by decide)
  · obtain ⟨q9, cel', mc, e1, hL, hf, hN⟩ := hr
    obtain ⟨h, h2⟩ := h
    refine ⟨e1, cel', ?_, hN⟩
    exact ⟨(hf (0) (by omega) (by omega)).trans (ci_0 h), (hf (1) (by omega) (by omega)).trans (ci_1 h), (hf (2) (by omega) (by omega)).trans (ci_2 h), (hf (3) (by omega) (by omega)).trans (ci_3 h), (hf (5) (by omega) (by omega)).trans (ci_5 h), (hf (6) (by omega) (by omega)).trans (ci_6 h), (hf (7) (by omega) (by omega)).trans (ci_7 h), (hf (8) (by omega) (by omega)).trans (ci_8 h), (hf (9) (by omega) (by omega)).trans (ci_9 h), (hf (10) (by omega) (by omega)).trans (ci_10 h), (hf (16) (by omega) (by omega)).trans (ci_16 h), ⟨mc, q9, hL⟩, (ci_M h).imp fun mc h1 => h1.imp fun aa h2 => h2.of (hf (12) (by omega) (by omega)) (hf (13) (by omega) (by omega)), (ci_Q h).imp fun mc h1 => h1.imp fun aa h2 => (h2.of (hf 14 (by omega) (by omega)) (hf 15 (by omega) (by omega))).congr (fun j hj => (up_ne _ _ (show q0 j ≠ n0 by have := (ci_f h).2.2.2.1 j hj; omega)).symm), fun i9 hi9 => by
      by_cases e : i9 = n0
      · subst e
        rw [up_same, up_s, up_s, up_s, up_s, up_s, up_s, up_s, up_s, up_s, up_s, up_s]
        exact (hf (20 + 2 * i9) (by omega) (by omega)).trans h2
      · rw [up_ne _ _ e, up_n e, up_n e, up_n e, up_n e, up_n e, up_n e, up_n e, up_n e, up_n e, up_n e, up_n e]
        exact (hf (20 + 2 * i9) (by omega) (by omega)).trans (ci_s h i9 (by omega)), fun i9 hi9 => by
      rw [up_ne _ _ (show q1 i9 ≠ n0 by have := (ci_f h).2.2.2.2 i9 hi9; omega)]
      exact (hf (21 + 2 * i9) (by omega) (by omega)).trans (ci_m h i9 hi9), ⟨by omega, (ci_f h).2.1, (ci_f h).2.2.1, fun j hj => by have := (ci_f h).2.2.2.1 j hj; omega, fun j hj => by have := (ci_f h).2.2.2.2 j hj; omega⟩⟩
end CL2
