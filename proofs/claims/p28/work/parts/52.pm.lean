section
def zEn (x s m : Int32) : Int32 := if s = 1 then (if 2 ≤ x - m then 2 else 1) else if s = 3 then (if 2 ≤ x - m then 4 else 3) else s
theorem z_end6 {F : Nat → Int32} {G : Nat → Nat → Int32} {N : Nat → Nat} {Q : Nat → Nat → Nat} (h5 : ∀ j, j < N 0 → G 10 j = 0 ∨ G 10 j = 1 ∨ G 10 j = 2 ∨ G 10 j = 3 ∨ G 10 j = 4) : ∀ j, sX6_endMoves F G N Q j = if j < N 0 then zEn (F 0) (G 10 j) (G 11 j) else G 10 j := by
  rw [sX6_endMoves]
  refine z_nfI (f := bX6_endMoves_2 F G N Q) (a := G 10) (fun k v => ∀ j, v j = if j < k then zEn (F 0) (G 10 j) (G 11 j) else G 10 j) (N 0) (fun j => by rw [if_neg (by omega)]) (fun k hk v hv => ?_)
  have hvk : v k = G 10 k := by rw [hv k, if_neg (by omega)]
  have e : bX6_endMoves_2 F G N Q k v = upd v k (zEn (F 0) (G 10 k) (G 11 k)) := by
    have idv : upd v k (G 10 k) = v := by rw [← hvk]; exact z_upid
    rw [bX6_endMoves_2, sX4_endMove, vX4_canMove]
    show (if (if v k = 0 then (1 : Int32) else if v k = 2 then (1 : Int32) else 0) = 0 then (if v k = 4 then v else (if (2 : Int32) ≤ F 0 - G 11 k then (if v k = 1 then upd v k 2 else upd v k 4) else v)) else v) = _
    rw [hvk, zEn]
    rcases h5 k hk with s | s | s | s | s
    · rw [s] at idv ⊢
      rw [if_pos rfl, if_neg (show ¬ (1 : Int32) = 0 by decide), if_neg (show ¬ (0 : Int32) = 1 by decide), if_neg (show ¬ (0 : Int32) = 3 by decide), idv]
    · rw [s] at idv ⊢
      rw [if_neg (show ¬ (1 : Int32) = 0 by decide), if_neg (show ¬ (1 : Int32) = 2 by decide), if_pos (rfl : (0 : Int32) = 0), if_neg (show ¬ (1 : Int32) = 4 by decide), if_pos (rfl : (1 : Int32) = 1)]
      by_cases q : (2 : Int32) ≤ F 0 - G 11 k
      · rw [if_pos q, if_pos (rfl : (1 : Int32) = 1), if_pos q]
      · rw [if_neg q, if_pos (rfl : (1 : Int32) = 1), if_neg q, idv]
    · rw [s] at idv ⊢
      rw [if_neg (show ¬ (2 : Int32) = 0 by decide), if_pos (rfl : (2 : Int32) = 2), if_neg (show ¬ (1 : Int32) = 0 by decide), if_neg (show ¬ (2 : Int32) = 1 by decide), if_neg (show ¬ (2 : Int32) = 3 by decide), idv]
    · rw [s] at idv ⊢
      rw [if_neg (show ¬ (3 : Int32) = 0 by decide), if_neg (show ¬ (3 : Int32) = 2 by decide), if_pos (rfl : (0 : Int32) = 0), if_neg (show ¬ (3 : Int32) = 4 by decide), if_neg (show ¬ (3 : Int32) = 1 by decide)]
      by_cases q : (2 : Int32) ≤ F 0 - G 11 k
      · rw [if_pos q, if_neg (show ¬ (3 : Int32) = 1 by decide), if_pos (rfl : (3 : Int32) = 3), if_pos q]
      · rw [if_neg q, if_neg (show ¬ (3 : Int32) = 1 by decide), if_pos (rfl : (3 : Int32) = 3), if_neg q, idv]
    · rw [s] at idv ⊢
      rw [if_neg (show ¬ (4 : Int32) = 0 by decide), if_neg (show ¬ (4 : Int32) = 2 by decide), if_pos (rfl : (0 : Int32) = 0), if_pos (rfl : (4 : Int32) = 4), if_neg (show ¬ (4 : Int32) = 1 by decide), if_neg (show ¬ (4 : Int32) = 3 by decide), idv]
  intro j
  rw [e]
  by_cases c : j = k
  · rw [c, up_s, if_pos (by omega)]
  · rw [up_n c, hv j]
    by_cases d : j < k
    · rw [if_pos d, if_pos (by omega)]
    · rw [if_neg d, if_neg (by omega)]
theorem z_p12 {f : Nat → Int32} {g : Nat → Nat → Int32} {k : Nat} {p : Int32} {s d : Nat → Int32} (hk : k < 30) (hs : s k = g 10 k) (h5 : g 10 k = 0 ∨ g 10 k = 1 ∨ g 10 k = 2 ∨ g 10 k = 3 ∨ g 10 k = 4) : bX7_passes_12 f g k (p, s, d) = (if zEn (f 1 + 1) (g 10 k) (g 12 k) = 2 then (p + (5 : Int32) * g 6 k, upd s k (zEn (f 1 + 1) (g 10 k) (g 12 k)), upd d k (d k + (5 : Int32) * g 6 k)) else (p, upd s k (zEn (f 1 + 1) (g 10 k) (g 12 k)), d)) := by
  rw [bX7_passes_12, nI_clamp (show k < 2 ^ 31 by omega)]
  simp only [hs, up_s]
  rw [zEn]
  have lt : ∀ y : Int32, y < 2 ↔ ¬ (2 : Int32) ≤ y := fun y => by
    rw [Int32.lt_iff_toInt_lt, Int32.le_iff_toInt_le]; omega
  generalize f 1 + (1 : Int32) - g 12 k = x at *
  have lx := lt x
  rcases h5 with e | e | e | e | e
  · rw [e, if_neg (show ¬ (0 : Int32) = 1 by decide), if_neg (show ¬ (0 : Int32) = 3 by decide), if_neg (show ¬ (0 : Int32) = 1 by decide), if_neg (show ¬ (0 : Int32) = 3 by decide)]
    rfl
  · rw [e, if_pos (rfl : (1 : Int32) = 1), if_pos (rfl : (1 : Int32) = 1)]
    by_cases q : (2 : Int32) ≤ x
    · rw [if_neg (fun z => lx.mp z q), if_pos q]; rfl
    · rw [if_pos (lx.mpr q), if_neg q]; rfl
  · rw [e, if_neg (show ¬ (2 : Int32) = 1 by decide), if_neg (show ¬ (2 : Int32) = 3 by decide), if_neg (show ¬ (2 : Int32) = 1 by decide), if_neg (show ¬ (2 : Int32) = 3 by decide)]
    rfl
  · rw [e, if_neg (show ¬ (3 : Int32) = 1 by decide), if_pos (rfl : (3 : Int32) = 3), if_neg (show ¬ (3 : Int32) = 1 by decide), if_pos (rfl : (3 : Int32) = 3)]
    by_cases q : (2 : Int32) ≤ x
    · rw [if_neg (fun z => lx.mp z q), if_pos q]; rfl
    · rw [if_pos (lx.mpr q), if_neg q]; rfl
  · rw [e, if_neg (show ¬ (4 : Int32) = 1 by decide), if_neg (show ¬ (4 : Int32) = 3 by decide), if_neg (show ¬ (4 : Int32) = 1 by decide), if_neg (show ¬ (4 : Int32) = 3 by decide)]
    rfl
end
