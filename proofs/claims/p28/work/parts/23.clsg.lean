theorem sendLast_row {F : Nat → Int32} {G : Nat → Nat → Int32} {N : Nat → Nat} {Q : Nat → Nat → Nat} {a : Int32} (hr : ∀ j, j < 6 → vp_in (G 3 j) 6) (ha : vp_in a 6) : ∀ j, j < 6 → vp_in (sX3_sendLast F G N Q a j) 6 := by
  have key : ∀ n, n ≤ 6 → ∀ j, j < 6 → vp_in ((nf (bX3_sendLast_4 F G N Q a) ((0 : Int32), (G 3)) n).2 j) 6 := by
    intro n
    induction n with
    | zero => intro _ j hj; exact hr j hj
    | succ n ih =>
      intro hn j hj
      have ih2 := ih (by omega)
      rw [nf]
      generalize nf (bX3_sendLast_4 F G N Q a) ((0 : Int32), (G 3)) n = v at ih2
      obtain ⟨v0, v1⟩ := v
      rw [bX3_sendLast_4]
      split
      · exact ih2 j hj
      · show vp_in (upd v1 _ _ j) 6
        by_cases e : j = (v0).toNatClampNeg
        · rw [e, up_s, nI_clamp (by omega)]
          exact ih2 n (by omega)
        · rw [up_n e]
          exact ih2 j hj
  intro j hj
  rw [sX3_sendLast]
  by_cases e : j = ((5 : Int32)).toNatClampNeg
  · rw [e, up_s]; exact ha
  · rw [up_n e]; exact key 6 (Nat.le_refl _) j hj
theorem begins_mono (F : Nat → Int32) (G : Nat → Nat → Int32) (N : Nat → Nat) (Q : Nat → Nat → Nat) (i : Nat) (a : Int32) : N 1 ≤ (sX6_begins F G N Q i a).1 := by
  unfold sX6_begins
  repeat' split
  all_goals first | exact Nat.le_refl _ | exact Nat.le_succ _
theorem begins_row {F : Nat → Int32} {G : Nat → Nat → Int32} {N : Nat → Nat} {Q : Nat → Nat → Nat} {i : Nat} {a : Int32} (hr : ∀ j, j < 6 → vp_in (G 3 j) 6) : ∀ j, j < 6 → vp_in ((sX6_begins F G N Q i a).2.2.2.2.1 j) 6 := by
  intro j hj
  unfold sX6_begins
  repeat' split
  all_goals first | exact hr j hj | (refine sendLast_row ?_ (fRP_vp hr (by assumption)) j hj; exact hr)
theorem settles_mono (F : Nat → Int32) (G : Nat → Nat → Int32) (N : Nat → Nat) (Q : Nat → Nat → Nat) (i : Nat) : N 1 ≤ (sX6_settles F G N Q i).1 := by
  unfold sX6_settles
  repeat' split
  all_goals first | exact Nat.le_refl _ | exact begins_mono _ _ _ _ _ _
theorem settles_row {F : Nat → Int32} {G : Nat → Nat → Int32} {N : Nat → Nat} {Q : Nat → Nat → Nat} {i : Nat} (hr : ∀ j, j < 6 → vp_in (G 3 j) 6) : ∀ j, j < 6 → vp_in ((sX6_settles F G N Q i).2.2.2.2.1 j) 6 := by
  intro j hj
  unfold sX6_settles
  repeat' split
  all_goals first | exact hr j hj | exact begins_row hr j hj
theorem drop_N {F : Nat → Int32} {G : Nat → Nat → Int32} {N : Nat → Nat} {Q : Nat → Nat → Nat} {p : Nat} (h9 : N 2 ≤ 100) (hp : p < N 2) : (sX2_drop F G N Q (Q 0 p)).1 = N 2 - 1 := by
  unfold sX2_drop
  rcases pO_spec (F := F) (G := G) (Q := Q) (i2 := Q 0 p) h9 with ⟨-, h2⟩ | ⟨h1, h2, -⟩
  · exact absurd rfl (h2 p hp)
  · rw [if_neg]
    intro z
    rw [h1] at z
    have h3 := nI_pos (n := pO F G N Q (Q 0 p)) (by omega)
    rw [z] at h3
    exact h3 (by decide)
