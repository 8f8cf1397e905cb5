section
theorem z_or {a b : Nat} (ha : a < 2 ^ 31) (hb : b < 2 ^ 31) : nI a ||| nI b = nI (a ||| b) := by
  have h : a ||| b < 2 ^ 31 := Nat.or_lt_two_pow ha hb
  apply Int32.toBitVec_inj.mp
  apply BitVec.eq_of_toNat_eq
  rw [Int32.toBitVec_or, BitVec.toNat_or, pk_tn (by omega), pk_tn (by omega), pk_tn (by omega)]
theorem z_sm : ∀ s, s < 30 → ((nI s &&& 31).toBitVec.smod 32).toNat = s := by decide +kernel
theorem z_s1 : ∀ s, s < 30 → ((1 : Int32) <<< (nI s &&& 31)) = nI (2 ^ s) := by decide +kernel
theorem z_sb {w s : Nat} (hw : w < 2 ^ 30) (hs : s < 30) : ((nI w >>> (nI s &&& 31)) &&& (1 : Int32)) = 0 ↔ Nat.testBit w s = false := by
  have h2 : w / 2 ^ s ≤ w := Nat.div_le_self _ _
  rw [pk_shrN (by omega) _ s (z_sm s hs), Nat.testBit_eq_decide_div_mod_eq]
  generalize w / 2 ^ s = x at *
  rw [pk_andN (by omega) 1 (by decide)]
  have e : nI (x % 2 ^ 1) = 0 ↔ x % 2 ^ 1 = 0 := nI_eq (b := 0) (by omega) (by omega)
  rw [e, decide_eq_false_iff_not]
  omega
theorem z_so {w i : Nat} (hw : w < 2 ^ 30) (hi : i < 30) : nI w ||| ((1 : Int32) <<< (nI i &&& 31)) = nI (w ||| 2 ^ i) ∧ w ||| 2 ^ i < 2 ^ 30 ∧ ∀ s, Nat.testBit (w ||| 2 ^ i) s = (Nat.testBit w s || decide (i = s)) := by
  have hp : 2 ^ i < 2 ^ 30 := Nat.pow_lt_pow_right (by decide) hi
  refine ⟨?_, Nat.or_lt_two_pow hw hp, fun s => ?_⟩
  · rw [z_s1 i hi]
    generalize 2 ^ i = y at *
    exact z_or (by omega) (by omega)
  · rw [Nat.testBit_or, Nat.testBit_two_pow]
theorem zC_del {p : Nat → Bool} {n x : Nat} (hx : x < n) (hp : p x = true) : zC p n = zC (fun s => p s && decide (s ≠ x)) n + 1 := by
  induction n with
  | zero => exact absurd hx (by omega)
  | succ n ih =>
    by_cases e : x = n
    · rw [← e, zC_t hp, zC_f (p := fun s => p s && decide (s ≠ x)) (by simp)]
      congr 1
      exact zC_congr fun j hj => by simp [show j ≠ x by omega]
    · have := ih (by omega)
      have q : (fun s => p s && decide (s ≠ x)) n = p n := by simp [show n ≠ x by omega]
      cases hh : p n with
      | false => rw [zC_f hh, zC_f (q.trans hh), this]
      | true => rw [zC_t hh, zC_t (q.trans hh), this]
theorem zC_card {n : Nat} {q : Nat → Nat} : ∀ (m : Nat) (p : Nat → Bool), (∀ i, i < m → q i < n) → (∀ i j, i < j → j < m → ¬ q i = q j) → (∀ s, s < n → (p s = true ↔ ∃ i, i < m ∧ q i = s)) → zC p n = m := by
  intro m
  induction m with
  | zero =>
    intro p _ _ h
    refine zC_0.mpr fun j hj => ?_
    cases e : p j with
    | false => rfl
    | true =>
      obtain ⟨i, hi, _⟩ := (h j hj).mp e
      exact absurd hi (by omega)
  | succ m ih =>
    intro p h1 h2 h3
    rw [zC_del (x := q m) (h1 m (by omega)) ((h3 _ (h1 m (by omega))).mpr ⟨m, by omega, rfl⟩)]
    rw [ih _ (fun i hi => h1 i (by omega)) (fun i j a b => h2 i j a (by omega)) ?_]
    intro s hs
    rw [Bool.and_eq_true, h3 s hs, decide_eq_true_iff]
    constructor
    · rintro ⟨⟨i, hi, e⟩, ne⟩
      by_cases z : i = m
      · rw [z] at e; exact absurd e.symm ne
      · exact ⟨i, by omega, e⟩
    · rintro ⟨i, hi, e⟩
      exact ⟨⟨i, by omega, e⟩, fun z => h2 i m hi (by omega) (e.trans z)⟩
theorem z_m1 {h : Nat} (hh : h < 2 ^ 31) : ¬ nI h = -1 := by
  intro z
  have := congrArg Int32.toInt z
  rw [nI_toInt hh] at this
  have e : (-1 : Int32).toInt = -1 := by decide
  omega
def zDu (g : Nat → Nat → Int32) (t w s : Nat) : Prop := ∃ h, h ≤ t ∧ g 11 s = nI h ∧ Nat.testBit w s = false
theorem z_selS {f0 f : Nat → Int32} {g0 g : Nat → Nat → Int32} {t w s j : Nat} {v : Int32} (ht : t ≤ 3001) (hw : w < 2 ^ 30) (hs : s < 30) (h1 : f 1 = nI t) (ho : g 11 s = -1 ∨ ∃ h, h ≤ 3000 ∧ g 11 s = nI h) : (zDu g t w s → bX7_passes_142 f0 g0 j (nI w) f g s v = if v = -1 then nI s else if vX7_isAhead f g (nI s) v = 0 then v else nI s) ∧ (¬ zDu g t w s → bX7_passes_142 f0 g0 j (nI w) f g s v = v) := by
  rw [bX7_passes_142, nI_clamp (by omega), h1]
  simp only [z_sb hw hs]
  constructor
  · rintro ⟨h, hh, e, hb⟩
    rw [e, if_neg (z_m1 (by omega)), if_neg (nI_nlt hh (by omega)), if_pos hb]
  · intro nd
    rcases ho with e | ⟨h, hh, e⟩
    · rw [if_pos e]
    · rw [e, if_neg (z_m1 (by omega))]
      by_cases c : nI t < nI h
      · rw [if_pos c]
      · rw [if_neg c]
        have hle : h ≤ t := by
          rw [nI_ltI (by omega) (by omega)] at c; omega
        by_cases b : Nat.testBit w s = false
        · exact absurd ⟨h, hle, e, b⟩ nd
        · rw [if_neg b]
theorem z_sel0 {f0 f : Nat → Int32} {g0 g : Nat → Nat → Int32} {t w n j : Nat} (ht : t ≤ 3001) (hw : w < 2 ^ 30) (hn : n ≤ 30) (h1 : f 1 = nI t) (ho : ∀ s, s < n → g 11 s = -1 ∨ ∃ h, h ≤ 3000 ∧ g 11 s = nI h) (nd : ∀ s, s < n → ¬ zDu g t w s) : nf (bX7_passes_142 f0 g0 j (nI w) f g) (-1 : Int32) n = -1 :=
  z_nfI (f := bX7_passes_142 f0 g0 j (nI w) f g) (a := (-1 : Int32)) (fun _ v => v = -1) n rfl (fun s hs v hv => by rw [(z_selS ht hw (by omega) h1 (ho s hs)).2 (nd s hs)]; exact hv)
theorem z_sel1 {f0 f : Nat → Int32} {g0 g : Nat → Nat → Int32} {t w n j m : Nat} (ht : t ≤ 3001) (hw : w < 2 ^ 30) (hn : n ≤ 30) (h1 : f 1 = nI t) (ho : ∀ s, s < n → g 11 s = -1 ∨ ∃ h, h ≤ 3000 ∧ g 11 s = nI h) (hm : m < n) (hd : zDu g t w m) (ha : ∀ s, s < n → zDu g t w s → ¬ s = m → zAh (g 8) (g 11) m s) : nf (bX7_passes_142 f0 g0 j (nI w) f g) (-1 : Int32) n = nI m := by
  have key := z_nfI (f := bX7_passes_142 f0 g0 j (nI w) f g) (a := (-1 : Int32)) (fun k v => (v = -1 ∧ ∀ s, s < k → ¬ zDu g t w s) ∨ ∃ s, s < k ∧ v = nI s ∧ zDu g t w s ∧ (m < k → s = m)) n (Or.inl ⟨rfl, fun s hs => absurd hs (by omega)⟩) (by
    intro k hk v hv
    obtain ⟨p1, p2⟩ := z_selS (f0 := f0) (g0 := g0) (j := j) (v := v) ht hw (show k < 30 by omega) h1 (ho k hk)
    by_cases d : zDu g t w k
    · rw [p1 d]
      rcases hv with ⟨a, b⟩ | ⟨s, a, b, c, e⟩
      · rw [if_pos a]
        refine Or.inr ⟨k, by omega, rfl, d, fun z => ?_⟩
        by_cases q : m = k
        · exact q.symm
        · exact absurd hd (b m (by omega))
      · rw [b, if_neg (z_m1 (by omega))]
        have ea := z_ah7 (f := f) (g := g) (i := k) (k := s) (by omega) (by omega)
        by_cases q : k = m
        · have : zAh (g 8) (g 11) k s := by rw [q]; exact ha s (by omega) c (by omega)
          rw [if_neg (fun z => ea.mp z this)]
          exact Or.inr ⟨k, by omega, rfl, d, fun _ => q⟩
        · by_cases x : m < k
          · have sm := e x
            have : ¬ zAh (g 8) (g 11) k s := by rw [sm]; exact zAh_as (ha k hk d q)
            rw [if_pos (ea.mpr this)]
            exact Or.inr ⟨s, by omega, rfl, c, fun _ => sm⟩
          · by_cases y : zAh (g 8) (g 11) k s
            · rw [if_neg (fun z => ea.mp z y)]
              exact Or.inr ⟨k, by omega, rfl, d, fun z => absurd z (by omega)⟩
            · rw [if_pos (ea.mpr y)]
              exact Or.inr ⟨s, by omega, rfl, c, fun z => absurd z (by omega)⟩
    · rw [p2 d]
      rcases hv with ⟨a, b⟩ | ⟨s, a, b, c, e⟩
      · refine Or.inl ⟨a, fun s hs => ?_⟩
        by_cases q : s = k
        · rw [q]; exact d
        · exact b s (by omega)
      · refine Or.inr ⟨s, by omega, b, c, fun z => ?_⟩
        by_cases q : m = k
        · rw [← q] at d; exact absurd hd d
        · exact e (by omega))
  rcases key with ⟨a, b⟩ | ⟨s, a, b, c, e⟩
  · exact absurd hd (b m hm)
  · rw [b, e hm]
def zQ (n0 n2 : Nat) (g8 g12 : Nat → Int32) (q0 : Nat → Nat) : Prop := (∀ i, i < n2 → q0 i < n0 ∧ ¬ g12 (q0 i) = -1) ∧ (∀ s, s < n0 → ¬ g12 s = -1 → ∃ i, i < n2 ∧ q0 i = s) ∧ ∀ i j, i < j → j < n2 → zAh g8 g12 (q0 i) (q0 j)
theorem zQ_ne {n0 n2 : Nat} {g8 g12 : Nat → Int32} {q0 : Nat → Nat} (h : zQ n0 n2 g8 g12 q0) {i j : Nat} (a : i < j) (b : j < n2) : ¬ q0 i = q0 j := fun z => zAh_irr (z ▸ h.2.2 i j a b)
theorem zQ_cnt {n0 n2 : Nat} {g8 g12 : Nat → Int32} {q0 : Nat → Nat} (h : zQ n0 n2 g8 g12 q0) : zC (fun s => decide (¬ g12 s = -1)) n0 = n2 :=
  zC_card (q := q0) n2 _ (fun i hi => (h.1 i hi).1) (fun i j a b => zQ_ne h a b) (fun s hs => by
    rw [decide_eq_true_iff]
    exact ⟨h.2.1 s hs, fun ⟨i, hi, e⟩ => e ▸ (h.1 i hi).2⟩)
theorem zQ_le {n0 n2 : Nat} {g8 g12 : Nat → Int32} {q0 : Nat → Nat} (h : zQ n0 n2 g8 g12 q0) : n2 ≤ n0 := by
  rw [← zQ_cnt h]; exact zC_le
theorem zQ_pos {n0 n2 : Nat} {g8 g12 : Nat → Int32} {q0 : Nat → Nat} (h : zQ n0 n2 g8 g12 q0) {i : Nat} (hi : i < n2) {pr : Nat → Bool} (hp : ∀ s, s < n0 → (pr s = true ↔ ¬ g12 s = -1 ∧ zAh g8 g12 s (q0 i))) : zC pr n0 = i :=
  zC_card (q := q0) i _ (fun i hi => (h.1 i (by omega)).1) (fun i j a b => zQ_ne h a (by omega)) (fun s hs => by
    rw [hp s hs]
    constructor
    · rintro ⟨a, b⟩
      obtain ⟨k, hk, e⟩ := h.2.1 s hs a
      refine ⟨k, ?_, e⟩
      rcases Nat.lt_trichotomy k i with x | x | x
      · exact x
      · rw [← e, x] at b; exact absurd b zAh_irr
      · rw [← e] at b; exact absurd b (zAh_as (h.2.2 i k x hk))
    · rintro ⟨k, hk, e⟩
      rw [← e]
      exact ⟨(h.1 k (by omega)).2, h.2.2 k i hk hi⟩)
theorem zQ_congr {n0 n2 : Nat} {g8 g12 g8' g12' : Nat → Int32} {q0 : Nat → Nat} (h : zQ n0 n2 g8 g12 q0) (a : zAg n0 g8 g8') (b : zAg n0 g12 g12') : zQ n0 n2 g8' g12' q0 := by
  refine ⟨fun i hi => ⟨(h.1 i hi).1, by rw [← b _ (h.1 i hi).1]; exact (h.1 i hi).2⟩, fun s hs q => h.2.1 s hs (by rw [b s hs]; exact q), fun i j hij hj => ?_⟩
  have c1 := (h.1 i (by omega)).1
  have c2 := (h.1 j hj).1
  exact (zAh_congr (a _ c1) (a _ c2) (b _ c1) (b _ c2)).mp (h.2.2 i j hij hj)
theorem z_del {n0 n2 : Nat} {g8 g12 : Nat → Int32} {q0 : Nat → Nat} (h : zQ n0 n2 g8 g12 q0) {p i : Nat} (hp : p < n2) (e : q0 p = i) : zQ n0 (n2 - 1) g8 (upd g12 i (-1)) (delG q0 p) := by
  have at_ : ∀ k, k < n2 - 1 → ∃ m, m < n2 ∧ ¬ m = p ∧ delG q0 p k = q0 m ∧ m = (if k < p then k else k + 1) := by
    intro k hk
    by_cases c : k < p
    · exact ⟨k, by omega, by omega, if_pos c, by rw [if_pos c]⟩
    · exact ⟨k + 1, by omega, by omega, if_neg c, by rw [if_neg c]⟩
  have ne : ∀ m, m < n2 → ¬ m = p → ¬ q0 m = i := by
    intro m hm hmp z
    rw [← e] at z
    rcases Nat.lt_or_gt_of_ne hmp with x | x
    · exact zQ_ne h x hp z
    · exact zQ_ne h x hm z.symm
  refine ⟨fun k hk => ?_, fun s hs q => ?_, fun a b hab hb => ?_⟩
  · obtain ⟨m, hm, hmp, em, _⟩ := at_ k hk
    rw [em, up_n (ne m hm hmp)]
    exact h.1 m hm
  · by_cases c : s = i
    · rw [c, up_s] at q; exact absurd rfl q
    · rw [up_n c] at q
      obtain ⟨m, hm, em⟩ := h.2.1 s hs q
      have hmp : ¬ m = p := fun z => c (by rw [← em, z, e])
      by_cases d : m < p
      · exact ⟨m, by omega, by rw [delG, if_pos d]; exact em⟩
      · exact ⟨m - 1, by omega, by rw [delG, if_neg (by omega), show m - 1 + 1 = m by omega]; exact em⟩
  · obtain ⟨m, hm, hmp, em, m1⟩ := at_ a (by omega)
    obtain ⟨k, hk, hkp, ek, k1⟩ := at_ b hb
    rw [em, ek]
    have mk : m < k := by
      rw [m1, k1]; split <;> split <;> omega
    exact (zAh_congr rfl rfl (up_n (ne m hm hmp)).symm (up_n (ne k hk hkp)).symm).mp (h.2.2 m k mk hk)
theorem z_insq {n0 n2 : Nat} {g8 g12 : Nat → Int32} {q0 : Nat → Nat} (h : zQ n0 n2 g8 g12 q0) {r i : Nat} {x : Int32} (hi : i < n0) (ho : g12 i = -1) (hx : ¬ x = -1) (hr : r ≤ n2) (h1 : ∀ j, j < r → zAh g8 (upd g12 i x) (q0 j) i) (h2 : r < n2 → ¬ zAh g8 (upd g12 i x) (q0 r) i) : zQ n0 (n2 + 1) g8 (upd g12 i x) (insG q0 r i) := by
  have ne : ∀ m, m < n2 → ¬ q0 m = i := fun m hm z => (h.1 m hm).2 (z ▸ ho)
  have old : ∀ a b, a < b → b < n2 → zAh g8 (upd g12 i x) (q0 a) (q0 b) := fun a b hab hb =>
    (zAh_congr rfl rfl (up_n (ne a (by omega))).symm (up_n (ne b hb)).symm).mp (h.2.2 a b hab hb)
  have beh : ∀ m, r ≤ m → m < n2 → zAh g8 (upd g12 i x) i (q0 m) := by
    intro m hm hm2
    have t1 : zAh g8 (upd g12 i x) i (q0 r) := (zAh_tot (ne r (by omega))).resolve_left (h2 (by omega))
    by_cases c : r = m
    · rw [← c]; exact t1
    · exact zAh_tr t1 (old r m (by omega) hm2)
  refine ⟨fun k hk => ?_, fun s hs q => ?_, fun a b hab hb => ?_⟩
  · unfold insG
    by_cases c : k < r
    · rw [if_pos c, up_n (ne k (by omega))]; exact h.1 k (by omega)
    · rw [if_neg c]
      by_cases d : k = r
      · rw [if_pos d, up_s]; exact ⟨hi, hx⟩
      · rw [if_neg d, up_n (ne (k - 1) (by omega))]; exact h.1 (k - 1) (by omega)
  · by_cases c : s = i
    · exact ⟨r, by omega, by rw [insG, if_neg (by omega), if_pos rfl, c]⟩
    · rw [up_n c] at q
      obtain ⟨m, hm, em⟩ := h.2.1 s hs q
      by_cases d : m < r
      · exact ⟨m, by omega, by rw [insG, if_pos d]; exact em⟩
      · exact ⟨m + 1, by omega, by rw [insG, if_neg (by omega), if_neg (by omega), Nat.add_sub_cancel]; exact em⟩
  · unfold insG
    by_cases c : a < r
    · rw [if_pos c]
      by_cases d : b < r
      · rw [if_pos d]; exact old a b hab (by omega)
      · rw [if_neg d]
        by_cases e : b = r
        · rw [if_pos e]; exact h1 a c
        · rw [if_neg e]; exact old a (b - 1) (by omega) (by omega)
    · rw [if_neg c, if_neg (show ¬ b < r by omega), if_neg (show ¬ b = r by omega)]
      by_cases d : a = r
      · rw [if_pos d]; exact beh (b - 1) (by omega) (by omega)
      · rw [if_neg d]; exact old (a - 1) (b - 1) (by omega) (by omega)
theorem z_ord7 {f : Nat → Int32} {g : Nat → Nat → Int32} {n : Nat} (hn : n ≤ 30) (h5 : f 5 = nI n) : vX7_ordered f g = nI (zC (fun s => decide (¬ g 11 s = -1)) n) := by
  have key := z_nfI (f := bX7_ordered_4 f g) (a := (0 : Int32)) (fun k v => v = nI (zC (fun s => decide (¬ g 11 s = -1)) k)) n rfl (by
    intro k hk v hv
    rw [bX7_ordered_4, nI_clamp (by omega), hv]
    by_cases c : g 11 k = -1
    · rw [if_pos c, zC_f (decide_eq_false (fun z => z c)), Int32.add_zero]
    · rw [if_neg c, zC_t (decide_eq_true c), nI_1])
  rw [vX7_ordered, h5, nI_clamp (by omega), key]
theorem z_qu7 {f : Nat → Int32} {g : Nat → Nat → Int32} {n i : Nat} (hn : n ≤ 30) (hi : i < 30) {pr : Nat → Bool} (hp : ∀ s, s < n → (pr s = true ↔ ¬ g 11 s = -1 ∧ zAh (g 8) (g 11) s i)) : nf (bX7_queue_26 f g (nI i)) (0 : Int32) n = nI (zC pr n) := by
  refine z_nfI (f := bX7_queue_26 f g (nI i)) (a := (0 : Int32)) (fun k v => v = nI (zC pr k)) n rfl (fun k hk v hv => ?_)
  rw [bX7_queue_26, nI_clamp (by omega), hv]
  have ea := z_ah7 (f := hu f 0 (0 : Int32)) (g := g) (i := k) (k := i) (by omega) (by omega)
  by_cases c : g 11 k = -1
  · have : pr k = false := by
      cases e : pr k with
      | false => rfl
      | true => exact absurd c ((hp k hk).mp e).1
    rw [if_pos c, zC_f this, Int32.add_zero]
  · rw [if_neg c]
    by_cases d : zAh (g 8) (g 11) k i
    · rw [if_neg (fun z => ea.mp z d), zC_t ((hp k hk).mpr ⟨c, d⟩), nI_1]
    · have : pr k = false := by
        cases e : pr k with
        | false => rfl
        | true => exact absurd ((hp k hk).mp e).2 d
      rw [if_pos (ea.mpr d), zC_f this, Int32.add_zero]
end
