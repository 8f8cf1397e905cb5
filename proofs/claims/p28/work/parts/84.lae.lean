section
def zTk (g9 g10 : Nat → Int32) : Nat → Nat
  | 0 => 0
  | j + 1 => if g10 j = 1 ∨ g10 j = 2 ∨ g10 j = 3 then zTk g9 g10 j ||| 2 ^ (g9 j).toNatClampNeg else zTk g9 g10 j
theorem zTk_bit {g9 g10 : Nat → Int32} : ∀ n, (∀ j, j < n → vp_in (g9 j) 6) → zTk g9 g10 n < 64 ∧ ∀ i, i < 6 → (Nat.testBit (zTk g9 g10 n) i = true ↔ ∃ j, j < n ∧ zBz (g10 j) ∧ g9 j = nI i) := by
  intro n
  induction n with
  | zero => exact fun _ => ⟨show (0 : Nat) < 64 by decide, fun i hi => ⟨fun z => absurd z (by simp [zTk]), fun ⟨j, hj, _⟩ => absurd hj (Nat.not_lt_zero _)⟩⟩
  | succ n ih =>
    intro h
    obtain ⟨h1, h2⟩ := ih (fun j hj => h j (by omega))
    obtain ⟨p, hp, ep⟩ := vp_in_of (h n (by omega)) (by decide)
    rw [zTk]
    by_cases c : g10 n = 1 ∨ g10 n = 2 ∨ g10 n = 3
    · rw [if_pos c, ep, nI_clamp (by omega)]
      obtain ⟨-, o2⟩ := z_orb _ h1 p hp
      refine ⟨o2, fun i hi => ?_⟩
      rw [z_ort _ h1 p hp i hi, Bool.or_eq_true, h2 i hi, decide_eq_true_iff]
      constructor
      · rintro (⟨j, hj, hb, e⟩ | e)
        · exact ⟨j, by omega, hb, e⟩
        · exact ⟨n, by omega, c, by rw [ep, e]⟩
      · rintro ⟨j, hj, hb, e⟩
        by_cases d : j = n
        · right
          rw [d, ep] at e
          exact ((nI_eq (by omega) (by omega)).mp e).symm
        · exact Or.inl ⟨j, by omega, hb, e⟩
    · rw [if_neg c]
      refine ⟨h1, fun i hi => ?_⟩
      rw [h2 i hi]
      constructor
      · rintro ⟨j, hj, hb, e⟩
        exact ⟨j, by omega, hb, e⟩
      · rintro ⟨j, hj, hb, e⟩
        by_cases d : j = n
        · rw [d] at hb; exact absurd hb c
        · exact ⟨j, by omega, hb, e⟩
theorem zTk_one {g9 g10 : Nat → Int32} {n k b : Nat} (hB : zB n g9 g10) (h9 : ∀ j, j < n → vp_in (g9 j) 6) (hk : k < n) (eb : g9 k = nI b) (hb : b < 6) (hz : zBz (g10 k)) : ((nI (zTk g9 g10 k) >>> (nI b &&& 31)) &&& (1 : Int32)) = 0 := by
  obtain ⟨h1, h2⟩ := zTk_bit (g9 := g9) (g10 := g10) k (fun j hj => h9 j (by omega))
  rw [z_shb _ h1 b hb]
  apply Classical.byContradiction
  intro c
  obtain ⟨j, hj, hbz, e⟩ := (h2 b hb).mp (by revert c; cases Nat.testBit (zTk g9 g10 k) b <;> simp)
  exact hB j k (by omega) hk (by omega) (e.trans eb.symm) hbz hz
theorem zTk_t {g9 g10 : Nat → Int32} {k b : Nat} (h9 : ∀ j, j < k → vp_in (g9 j) 6) (eb : g9 k = nI b) (hb : b < 6) (hz : g10 k = 1 ∨ g10 k = 2 ∨ g10 k = 3) : (nI (zTk g9 g10 k) ||| ((1 : Int32) <<< (nI b &&& 31))) = nI (zTk g9 g10 (k + 1)) := by
  rw [(z_orb _ (zTk_bit (g9 := g9) (g10 := g10) k h9).1 b hb).1, zTk, if_pos hz, eb, nI_clamp (by omega)]
theorem zTk_f {g9 g10 : Nat → Int32} {k : Nat} (h9 : ∀ j, j < k → vp_in (g9 j) 6) (h1 : ¬ g10 k = 1) (h2 : ¬ g10 k = 2) (h3 : ¬ g10 k = 3) : (nI (zTk g9 g10 k) ||| (0 : Int32)) = nI (zTk g9 g10 (k + 1)) := by
  rw [z_or0 _ (zTk_bit (g9 := g9) (g10 := g10) k h9).1, zTk, if_neg (fun z => z.elim h1 (fun z => z.elim h2 h3))]
set_option maxRecDepth 100000 in
set_option maxHeartbeats 4000000 in
theorem k_L_isPort {l : Launch} (hsl : l.stackTraces = false) {D : va_G} {Y : Nat → ClassId} {z tE mi ac ap : Nat} {ad : Nat → Nat} {t : Nat} (F : Nat → Int32) (G : Nat → Nat → Int32) (N : Nat → Nat) (Q : Nat → Nat → Nat) (cf pf : Nat → Int32) (hL : zL t F G N Q cf pf) (a : Nat) (ha : a < 2 ^ 31) : KM l yL_isPort cL_isPort 8 (some .boolean) D Y (fun q => z ≤ q) (EC (fun q => z ≤ q) tE mi) 11 350 108 648 [.ref (ad 0), .ref (ac), .ref (ap), .int (nI a)] (LV D Y z tE ac ap ad F G N Q cf pf) (some (.int 1)) (LV D Y z tE ac ap ad F G N Q cf pf) := by
  refine KM_of RL [(0, .ref (ad 0)), (1, .ref (ac)), (2, .ref (ap)), (3, .int (nI a))] rfl (by decide) hsl (Nat.le_of_ble_eq_true rfl) rfl (lok_of rfl rfl) ?_
  intro p e s m args below meth c C0
  have hJ := hL.1
  have hn0 := hL.1.n0
  have h10 := hL.2.1.1
  have htt := hL.1.tt.1
  have hM := hL.2.2.2.2.2.2.2.1
  obtain ⟨w9, hw9, etg, hbit⟩ := zv_tugs hJ
  refine j_iconst C0 (v := 1) dL_isPort_0 (by decide) ?_
  refine j_istore C0 (L' := [(0, .ref (ad 0)), (1, .ref (ac)), (2, .ref (ap)), (3, .int (nI a)), (4, .int ((1 : Int32)))]) dL_isPort_1 (by decide) rfl ?_
  refine j_iconst C0 (v := 0) dL_isPort_3 (by decide) ?_
  refine j_istore C0 (L' := [(0, .ref (ad 0)), (1, .ref (ac)), (2, .ref (ap)), (3, .int (nI a)), (4, .int ((1 : Int32))), (5, .int ((0 : Int32)))]) dL_isPort_4 (by decide) rfl ?_
  refine j_iconst C0 (v := 0) dL_isPort_6 (by decide) ?_
  refine j_istore C0 (L' := [(0, .ref (ad 0)), (1, .ref (ac)), (2, .ref (ap)), (3, .int (nI a)), (4, .int ((1 : Int32))), (5, .int ((0 : Int32))), (6, .int ((0 : Int32)))]) dL_isPort_7 (by decide) rfl ?_
  refine j_widen (k := 0 + 6 * 0) (n := 0 + 36 * 0) (by omega) (by omega) ?_
  refine j_castL (L' := [(0, .ref (ad 0)), (1, .ref (ac)), (2, .ref (ap)), (3, .int (nI a)), (4, .int ((1 : Int32))), (5, .int (nI (zTk (G 9) (G 10) 0))), (6, .int (nI 0))]) (rfl) ?_
  refine l_loop (P := fun (kk : Nat) => J p l e _ s m args below meth c (fun q => z ≤ q) 8 _ (LV D Y z tE ac ap ad F G N Q cf pf) (0 + 6 * kk) (0 + 36 * kk) 9 [(0, .ref (ad 0)), (1, .ref (ac)), (2, .ref (ap)), (3, .int (nI a)), (4, .int ((1 : Int32))), (5, .int (nI (zTk (G 9) (G 10) kk))), (6, .int (nI kk))] []) (N 0) ?_ (fun kk hkk K9 => ?_)
  rotate_left
  ·
    show J p l e _ s m args below meth c (fun q => z ≤ q) 8 _ (LV D Y z tE ac ap ad F G N Q cf pf) (0 + 6 * kk) (0 + 36 * kk) 9 [(0, .ref (ad 0)), (1, .ref (ac)), (2, .ref (ap)), (3, .int (nI a)), (4, .int ((1 : Int32))), (5, .int (nI (zTk (G 9) (G 10) kk))), (6, .int (nI kk))] []
    replace K9 : J p l e _ s m args below meth c (fun q => z ≤ q) 8 _ (LV D Y z tE ac ap ad F G N Q cf pf) (0 + 6 * (kk + 1)) (0 + 36 * (kk + 1)) 9 [(0, .ref (ad 0)), (1, .ref (ac)), (2, .ref (ap)), (3, .int (nI a)), (4, .int ((1 : Int32))), (5, .int (nI (zTk (G 9) (G 10) (kk + 1)))), (6, .int (nI (kk + 1)))] [] := K9
    obtain ⟨b, hb, eb⟩ := vp_in_of (hJ.hb kk hkk) (by decide)
    have h9k : ∀ j, j < kk → vp_in (G 9 j) 6 := fun j hj => hJ.hb j (by omega)
    refine j_iload C0 dL_isPort_9 rfl ?_
    refine j_aload_n C0 dL_isPort_11 rfl ?_
    refine j_iconst C0 (v := 1) dL_isPort_12 (by decide) ?_
    refine l_ldcN C0 (i := 1) (by omega) dL_isPort_13 (v := nI (N 0)) hL.2.2.2.1 ?_
    refine j_icmp_ge C0 145 dL_isPort_14 (by decide) (fun z9 => absurd z9 (nI_ge (by omega) (by omega))) (fun _ => ?_)
    refine j_aload_n C0 dL_isPort_17 rfl ?_
    refine j_bipush C0 (v := 40) dL_isPort_18 (by decide) ?_
    refine j_iload C0 dL_isPort_20 rfl ?_
    refine j_iadd C0 dL_isPort_22 ?_
    refine j_top (nI (40 + kk)) (nI_add 40 kk) ?_
    refine l_ldpN C0 (i := 40 + kk) (by omega) dL_isPort_23 (v := G 10 kk) (hM kk hkk).2.2.2.2.1 ?_
    refine j_iconst C0 (v := 1) dL_isPort_24 (by decide) ?_
    refine j_icmp_eq C0 50 dL_isPort_25 (by decide) (fun (q1 : G 10 kk = (1 : Int32)) => ?_) (fun (q1 : ¬ (G 10 kk = (1 : Int32))) => ?_)
    ·
      refine j_iconst C0 (v := 1) dL_isPort_50 (by decide) ?_
      refine j_goto C0 55 dL_isPort_51 (by decide) ?_
      refine j_istore C0 (L' := [(0, .ref (ad 0)), (1, .ref (ac)), (2, .ref (ap)), (3, .int (nI a)), (4, .int ((1 : Int32))), (5, .int (nI (zTk (G 9) (G 10) kk))), (6, .int (nI kk)), (7, .int ((1 : Int32)))]) dL_isPort_55 (by decide) rfl ?_
      refine j_iload C0 dL_isPort_57 rfl ?_
      refine j_if_eq C0 113 dL_isPort_59 (by decide) (fun z9 => absurd z9 (by decide)) (fun _ => ?_)
      refine j_iload C0 dL_isPort_62 rfl ?_
      refine j_if_eq C0 82 dL_isPort_64 (by decide) (fun z9 => absurd z9 (by decide)) (fun _ => ?_)
      refine j_iload C0 dL_isPort_67 rfl ?_
      refine j_aload_n C0 dL_isPort_69 rfl ?_
      refine j_bipush C0 (v := 30) dL_isPort_70 (by decide) ?_
      refine j_iload C0 dL_isPort_72 rfl ?_
      refine j_iadd C0 dL_isPort_74 ?_
      refine j_top (nI (30 + kk)) (nI_add 30 kk) ?_
      refine l_ldpN C0 (i := 30 + kk) (by omega) dL_isPort_75 (v := nI b) ((hM kk hkk).2.2.2.1.trans eb) ?_
      refine j_ishr C0 dL_isPort_76 ?_
      refine j_iconst C0 (v := 1) dL_isPort_77 (by decide) ?_
      refine j_iand C0 dL_isPort_78 ?_
      refine j_if_ne C0 113 dL_isPort_79 (by decide) (fun z9 => absurd (zTk_one hL.2.1.2.2.1 hJ.hb hkk eb hb (Or.inl q1)) z9) (fun _ => ?_)
      refine j_aload_n C0 dL_isPort_82 rfl ?_
      refine j_iload C0 dL_isPort_83 rfl ?_
      refine j_iload_n C0 dL_isPort_85 rfl ?_
      refine j_sipush C0 (v := 3000) dL_isPort_86 (by decide) ?_
      refine j_irem C0 dL_isPort_89 (by decide) ?_
      refine j_top (nI (a % 3000)) (pk_rem (a := a) (d := 3000) (by omega) (by first | decide | omega) (by first | decide | omega)) ?_
      refine j_callVv C0 (lv_kx (z := z) (ac := ac) (ap := ap) (cf := cf) (pf := pf) (show eX6_hasWater F G N Q (nI kk) (nI (a % 3000)) = 0 ∧ vX6_hasWater F G N Q (nI kk) (nI (a % 3000)) = vX6_hasWater F G N Q (nI kk) (nI (a % 3000)) from ⟨(zv_hasWater hkk hn0 (by omega)).1, rfl⟩).1 (show eX6_hasWater F G N Q (nI kk) (nI (a % 3000)) = 0 ∧ vX6_hasWater F G N Q (nI kk) (nI (a % 3000)) = vX6_hasWater F G N Q (nI kk) (nI (a % 3000)) from ⟨(zv_hasWater hkk hn0 (by omega)).1, rfl⟩).2 (k_X6_hasWater hsl (A := AC z ac ap) (E := EC (AC z ac ap) tE mi) (fun U h => h) ad F G N Q (nI kk) (nI (a % 3000)) hJ.hb)) mv_X6_hasWater wm_L_124 (lv_recv C0) rfl rfl ⟨Nat.le_of_ble_eq_true rfl, Nat.le_of_ble_eq_true rfl⟩ (Nat.le_of_ble_eq_true rfl) ⟨by show _ ≤ (108 : Nat); omega, by show _ ≤ (648 : Nat); omega⟩ dL_isPort_90 ?_
      refine j_aload_n C0 dL_isPort_93 rfl ?_
      refine j_aload_n C0 dL_isPort_94 rfl ?_
      refine j_aload_n C0 dL_isPort_95 rfl ?_
      refine j_iload C0 dL_isPort_96 rfl ?_
      refine j_iload_n C0 dL_isPort_98 rfl ?_
      refine j_sipush C0 (v := 3000) dL_isPort_99 (by decide) ?_
      refine j_irem C0 dL_isPort_102 (by decide) ?_
      refine j_top (nI (a % 3000)) (pk_rem (a := a) (d := 3000) (by omega) (by first | decide | omega) (by first | decide | omega)) ?_
      refine j_callSv (rest := [.int (vX6_hasWater F G N Q (nI kk) (nI (a % 3000)))]) C0 (k_L_hasWater hsl F G N Q cf pf hL kk (a % 3000) hkk (by omega)) ms_L_hasWater wm_L_128 rfl rfl ⟨Nat.le_of_ble_eq_true rfl, Nat.le_of_ble_eq_true rfl⟩ (Nat.le_of_ble_eq_true rfl) ⟨by show _ ≤ (108 : Nat); omega, by show _ ≤ (648 : Nat); omega⟩ dL_isPort_103 ?_
      refine j_icmp_ne C0 113 dL_isPort_106 (by decide) (fun z9 => absurd rfl z9) (fun _ => ?_)
      refine j_iconst C0 (v := 1) dL_isPort_109 (by decide) ?_
      refine j_goto C0 114 dL_isPort_110 (by decide) ?_
      refine j_istore C0 (L' := [(0, .ref (ad 0)), (1, .ref (ac)), (2, .ref (ap)), (3, .int (nI a)), (4, .int ((1 : Int32))), (5, .int (nI (zTk (G 9) (G 10) kk))), (6, .int (nI kk)), (7, .int ((1 : Int32)))]) dL_isPort_114 (by decide) rfl ?_
      refine j_iload C0 dL_isPort_116 rfl ?_
      refine j_iload C0 dL_isPort_118 rfl ?_
      refine j_if_eq C0 135 dL_isPort_120 (by decide) (fun z9 => absurd z9 (by decide)) (fun _ => ?_)
      refine j_iconst C0 (v := 1) dL_isPort_123 (by decide) ?_
      refine j_aload_n C0 dL_isPort_124 rfl ?_
      refine j_bipush C0 (v := 30) dL_isPort_125 (by decide) ?_
      refine j_iload C0 dL_isPort_127 rfl ?_
      refine j_iadd C0 dL_isPort_129 ?_
      refine j_top (nI (30 + kk)) (nI_add 30 kk) ?_
      refine l_ldpN C0 (i := 30 + kk) (by omega) dL_isPort_130 (v := nI b) ((hM kk hkk).2.2.2.1.trans eb) ?_
      refine j_ishl C0 dL_isPort_131 ?_
      refine j_goto C0 136 dL_isPort_132 (by decide) ?_
      refine j_ior C0 dL_isPort_136 ?_
      refine j_top (nI (zTk (G 9) (G 10) (kk + 1))) (zTk_t h9k eb hb (Or.inl q1)) ?_
      refine j_istore C0 (L' := [(0, .ref (ad 0)), (1, .ref (ac)), (2, .ref (ap)), (3, .int (nI a)), (4, .int ((1 : Int32))), (5, .int (nI (zTk (G 9) (G 10) (kk + 1)))), (6, .int (nI kk)), (7, .int ((1 : Int32)))]) dL_isPort_137 (by decide) rfl ?_
      refine j_iinc C0 (v := nI (kk + 1)) (L' := [(0, .ref (ad 0)), (1, .ref (ac)), (2, .ref (ap)), (3, .int (nI a)), (4, .int ((1 : Int32))), (5, .int (nI (zTk (G 9) (G 10) (kk + 1)))), (6, .int (nI (kk + 1))), (7, .int ((1 : Int32)))]) dL_isPort_139 rfl (nI_inc kk) (by decide) rfl ?_
      refine j_goto C0 9 dL_isPort_142 (by decide) ?_
      refine j_widen (k := 0 + 6 * (kk + 1)) (n := 0 + 36 * (kk + 1)) (by omega) (by omega) ?_
      refine j_locals (L' := [(0, .ref (ad 0)), (1, .ref (ac)), (2, .ref (ap)), (3, .int (nI a)), (4, .int ((1 : Int32))), (5, .int (nI (zTk (G 9) (G 10) (kk + 1)))), (6, .int (nI (kk + 1)))]) (fun q hq => by simp only [List.mem_cons, List.mem_nil_iff, or_false] at hq ⊢; rcases hq with rfl | rfl | rfl | rfl | rfl | rfl | rfl <;> simp) (lok_of rfl rfl) ?_
      exact K9
    ·
      refine j_aload_n C0 dL_isPort_28 rfl ?_
      refine j_bipush C0 (v := 40) dL_isPort_29 (by decide) ?_
      refine j_iload C0 dL_isPort_31 rfl ?_
      refine j_iadd C0 dL_isPort_33 ?_
      refine j_top (nI (40 + kk)) (nI_add 40 kk) ?_
      refine l_ldpN C0 (i := 40 + kk) (by omega) dL_isPort_34 (v := G 10 kk) (hM kk hkk).2.2.2.2.1 ?_
      refine j_iconst C0 (v := 2) dL_isPort_35 (by decide) ?_
      refine j_icmp_eq C0 50 dL_isPort_36 (by decide) (fun (q2 : G 10 kk = (2 : Int32)) => ?_) (fun (q2 : ¬ (G 10 kk = (2 : Int32))) => ?_)
      ·
        refine j_iconst C0 (v := 1) dL_isPort_50 (by decide) ?_
        refine j_goto C0 55 dL_isPort_51 (by decide) ?_
        refine j_istore C0 (L' := [(0, .ref (ad 0)), (1, .ref (ac)), (2, .ref (ap)), (3, .int (nI a)), (4, .int ((1 : Int32))), (5, .int (nI (zTk (G 9) (G 10) kk))), (6, .int (nI kk)), (7, .int ((1 : Int32)))]) dL_isPort_55 (by decide) rfl ?_
        refine j_iload C0 dL_isPort_57 rfl ?_
        refine j_if_eq C0 113 dL_isPort_59 (by decide) (fun z9 => absurd z9 (by decide)) (fun _ => ?_)
        refine j_iload C0 dL_isPort_62 rfl ?_
        refine j_if_eq C0 82 dL_isPort_64 (by decide) (fun z9 => absurd z9 (by decide)) (fun _ => ?_)
        refine j_iload C0 dL_isPort_67 rfl ?_
        refine j_aload_n C0 dL_isPort_69 rfl ?_
        refine j_bipush C0 (v := 30) dL_isPort_70 (by decide) ?_
        refine j_iload C0 dL_isPort_72 rfl ?_
        refine j_iadd C0 dL_isPort_74 ?_
        refine j_top (nI (30 + kk)) (nI_add 30 kk) ?_
        refine l_ldpN C0 (i := 30 + kk) (by omega) dL_isPort_75 (v := nI b) ((hM kk hkk).2.2.2.1.trans eb) ?_
        refine j_ishr C0 dL_isPort_76 ?_
        refine j_iconst C0 (v := 1) dL_isPort_77 (by decide) ?_
        refine j_iand C0 dL_isPort_78 ?_
        refine j_if_ne C0 113 dL_isPort_79 (by decide) (fun z9 => absurd (zTk_one hL.2.1.2.2.1 hJ.hb hkk eb hb (Or.inr (Or.inl q2))) z9) (fun _ => ?_)
        refine j_aload_n C0 dL_isPort_82 rfl ?_
        refine j_iload C0 dL_isPort_83 rfl ?_
        refine j_iload_n C0 dL_isPort_85 rfl ?_
        refine j_sipush C0 (v := 3000) dL_isPort_86 (by decide) ?_
        refine j_irem C0 dL_isPort_89 (by decide) ?_
        refine j_top (nI (a % 3000)) (pk_rem (a := a) (d := 3000) (by omega) (by first | decide | omega) (by first | decide | omega)) ?_
        refine j_callVv C0 (lv_kx (z := z) (ac := ac) (ap := ap) (cf := cf) (pf := pf) (show eX6_hasWater F G N Q (nI kk) (nI (a % 3000)) = 0 ∧ vX6_hasWater F G N Q (nI kk) (nI (a % 3000)) = vX6_hasWater F G N Q (nI kk) (nI (a % 3000)) from ⟨(zv_hasWater hkk hn0 (by omega)).1, rfl⟩).1 (show eX6_hasWater F G N Q (nI kk) (nI (a % 3000)) = 0 ∧ vX6_hasWater F G N Q (nI kk) (nI (a % 3000)) = vX6_hasWater F G N Q (nI kk) (nI (a % 3000)) from ⟨(zv_hasWater hkk hn0 (by omega)).1, rfl⟩).2 (k_X6_hasWater hsl (A := AC z ac ap) (E := EC (AC z ac ap) tE mi) (fun U h => h) ad F G N Q (nI kk) (nI (a % 3000)) hJ.hb)) mv_X6_hasWater wm_L_124 (lv_recv C0) rfl rfl ⟨Nat.le_of_ble_eq_true rfl, Nat.le_of_ble_eq_true rfl⟩ (Nat.le_of_ble_eq_true rfl) ⟨by show _ ≤ (108 : Nat); omega, by show _ ≤ (648 : Nat); omega⟩ dL_isPort_90 ?_
        refine j_aload_n C0 dL_isPort_93 rfl ?_
        refine j_aload_n C0 dL_isPort_94 rfl ?_
        refine j_aload_n C0 dL_isPort_95 rfl ?_
        refine j_iload C0 dL_isPort_96 rfl ?_
        refine j_iload_n C0 dL_isPort_98 rfl ?_
        refine j_sipush C0 (v := 3000) dL_isPort_99 (by decide) ?_
        refine j_irem C0 dL_isPort_102 (by decide) ?_
        refine j_top (nI (a % 3000)) (pk_rem (a := a) (d := 3000) (by omega) (by first | decide | omega) (by first | decide | omega)) ?_
        refine j_callSv (rest := [.int (vX6_hasWater F G N Q (nI kk) (nI (a % 3000)))]) C0 (k_L_hasWater hsl F G N Q cf pf hL kk (a % 3000) hkk (by omega)) ms_L_hasWater wm_L_128 rfl rfl ⟨Nat.le_of_ble_eq_true rfl, Nat.le_of_ble_eq_true rfl⟩ (Nat.le_of_ble_eq_true rfl) ⟨by show _ ≤ (108 : Nat); omega, by show _ ≤ (648 : Nat); omega⟩ dL_isPort_103 ?_
        refine j_icmp_ne C0 113 dL_isPort_106 (by decide) (fun z9 => absurd rfl z9) (fun _ => ?_)
        refine j_iconst C0 (v := 1) dL_isPort_109 (by decide) ?_
        refine j_goto C0 114 dL_isPort_110 (by decide) ?_
        refine j_istore C0 (L' := [(0, .ref (ad 0)), (1, .ref (ac)), (2, .ref (ap)), (3, .int (nI a)), (4, .int ((1 : Int32))), (5, .int (nI (zTk (G 9) (G 10) kk))), (6, .int (nI kk)), (7, .int ((1 : Int32)))]) dL_isPort_114 (by decide) rfl ?_
        refine j_iload C0 dL_isPort_116 rfl ?_
        refine j_iload C0 dL_isPort_118 rfl ?_
        refine j_if_eq C0 135 dL_isPort_120 (by decide) (fun z9 => absurd z9 (by decide)) (fun _ => ?_)
        refine j_iconst C0 (v := 1) dL_isPort_123 (by decide) ?_
        refine j_aload_n C0 dL_isPort_124 rfl ?_
        refine j_bipush C0 (v := 30) dL_isPort_125 (by decide) ?_
        refine j_iload C0 dL_isPort_127 rfl ?_
        refine j_iadd C0 dL_isPort_129 ?_
        refine j_top (nI (30 + kk)) (nI_add 30 kk) ?_
        refine l_ldpN C0 (i := 30 + kk) (by omega) dL_isPort_130 (v := nI b) ((hM kk hkk).2.2.2.1.trans eb) ?_
        refine j_ishl C0 dL_isPort_131 ?_
        refine j_goto C0 136 dL_isPort_132 (by decide) ?_
        refine j_ior C0 dL_isPort_136 ?_
        refine j_top (nI (zTk (G 9) (G 10) (kk + 1))) (zTk_t h9k eb hb (Or.inr (Or.inl q2))) ?_
        refine j_istore C0 (L' := [(0, .ref (ad 0)), (1, .ref (ac)), (2, .ref (ap)), (3, .int (nI a)), (4, .int ((1 : Int32))), (5, .int (nI (zTk (G 9) (G 10) (kk + 1)))), (6, .int (nI kk)), (7, .int ((1 : Int32)))]) dL_isPort_137 (by decide) rfl ?_
        refine j_iinc C0 (v := nI (kk + 1)) (L' := [(0, .ref (ad 0)), (1, .ref (ac)), (2, .ref (ap)), (3, .int (nI a)), (4, .int ((1 : Int32))), (5, .int (nI (zTk (G 9) (G 10) (kk + 1)))), (6, .int (nI (kk + 1))), (7, .int ((1 : Int32)))]) dL_isPort_139 rfl (nI_inc kk) (by decide) rfl ?_
        refine j_goto C0 9 dL_isPort_142 (by decide) ?_
        refine j_widen (k := 0 + 6 * (kk + 1)) (n := 0 + 36 * (kk + 1)) (by omega) (by omega) ?_
        refine j_locals (L' := [(0, .ref (ad 0)), (1, .ref (ac)), (2, .ref (ap)), (3, .int (nI a)), (4, .int ((1 : Int32))), (5, .int (nI (zTk (G 9) (G 10) (kk + 1)))), (6, .int (nI (kk + 1)))]) (fun q hq => by simp only [List.mem_cons, List.mem_nil_iff, or_false] at hq ⊢; rcases hq with rfl | rfl | rfl | rfl | rfl | rfl | rfl <;> simp) (lok_of rfl rfl) ?_
        exact K9
      ·
        refine j_aload_n C0 dL_isPort_39 rfl ?_
        refine j_bipush C0 (v := 40) dL_isPort_40 (by decide) ?_
        refine j_iload C0 dL_isPort_42 rfl ?_
        refine j_iadd C0 dL_isPort_44 ?_
        refine j_top (nI (40 + kk)) (nI_add 40 kk) ?_
        refine l_ldpN C0 (i := 40 + kk) (by omega) dL_isPort_45 (v := G 10 kk) (hM kk hkk).2.2.2.2.1 ?_
        refine j_iconst C0 (v := 3) dL_isPort_46 (by decide) ?_
        refine j_icmp_ne C0 54 dL_isPort_47 (by decide) (fun (q3 : ¬ (G 10 kk = (3 : Int32))) => ?_) (fun (q3 : G 10 kk = (3 : Int32)) => ?_)
        ·
          refine j_iconst C0 (v := 0) dL_isPort_54 (by decide) ?_
          refine j_istore C0 (L' := [(0, .ref (ad 0)), (1, .ref (ac)), (2, .ref (ap)), (3, .int (nI a)), (4, .int ((1 : Int32))), (5, .int (nI (zTk (G 9) (G 10) kk))), (6, .int (nI kk)), (7, .int ((0 : Int32)))]) dL_isPort_55 (by decide) rfl ?_
          refine j_iload C0 dL_isPort_57 rfl ?_
          refine j_if_eq C0 113 dL_isPort_59 (by decide) (fun z9 => absurd z9 (by decide)) (fun _ => ?_)
          refine j_iload C0 dL_isPort_62 rfl ?_
          refine j_if_eq C0 82 dL_isPort_64 (by decide) (fun _ => ?_) (fun z9 => absurd (by decide) z9)
          refine j_aload_n C0 dL_isPort_82 rfl ?_
          refine j_iload C0 dL_isPort_83 rfl ?_
          refine j_iload_n C0 dL_isPort_85 rfl ?_
          refine j_sipush C0 (v := 3000) dL_isPort_86 (by decide) ?_
          refine j_irem C0 dL_isPort_89 (by decide) ?_
          refine j_top (nI (a % 3000)) (pk_rem (a := a) (d := 3000) (by omega) (by first | decide | omega) (by first | decide | omega)) ?_
          refine j_callVv C0 (lv_kx (z := z) (ac := ac) (ap := ap) (cf := cf) (pf := pf) (show eX6_hasWater F G N Q (nI kk) (nI (a % 3000)) = 0 ∧ vX6_hasWater F G N Q (nI kk) (nI (a % 3000)) = vX6_hasWater F G N Q (nI kk) (nI (a % 3000)) from ⟨(zv_hasWater hkk hn0 (by omega)).1, rfl⟩).1 (show eX6_hasWater F G N Q (nI kk) (nI (a % 3000)) = 0 ∧ vX6_hasWater F G N Q (nI kk) (nI (a % 3000)) = vX6_hasWater F G N Q (nI kk) (nI (a % 3000)) from ⟨(zv_hasWater hkk hn0 (by omega)).1, rfl⟩).2 (k_X6_hasWater hsl (A := AC z ac ap) (E := EC (AC z ac ap) tE mi) (fun U h => h) ad F G N Q (nI kk) (nI (a % 3000)) hJ.hb)) mv_X6_hasWater wm_L_124 (lv_recv C0) rfl rfl ⟨Nat.le_of_ble_eq_true rfl, Nat.le_of_ble_eq_true rfl⟩ (Nat.le_of_ble_eq_true rfl) ⟨by show _ ≤ (108 : Nat); omega, by show _ ≤ (648 : Nat); omega⟩ dL_isPort_90 ?_
          refine j_aload_n C0 dL_isPort_93 rfl ?_
          refine j_aload_n C0 dL_isPort_94 rfl ?_
          refine j_aload_n C0 dL_isPort_95 rfl ?_
          refine j_iload C0 dL_isPort_96 rfl ?_
          refine j_iload_n C0 dL_isPort_98 rfl ?_
          refine j_sipush C0 (v := 3000) dL_isPort_99 (by decide) ?_
          refine j_irem C0 dL_isPort_102 (by decide) ?_
          refine j_top (nI (a % 3000)) (pk_rem (a := a) (d := 3000) (by omega) (by first | decide | omega) (by first | decide | omega)) ?_
          refine j_callSv (rest := [.int (vX6_hasWater F G N Q (nI kk) (nI (a % 3000)))]) C0 (k_L_hasWater hsl F G N Q cf pf hL kk (a % 3000) hkk (by omega)) ms_L_hasWater wm_L_128 rfl rfl ⟨Nat.le_of_ble_eq_true rfl, Nat.le_of_ble_eq_true rfl⟩ (Nat.le_of_ble_eq_true rfl) ⟨by show _ ≤ (108 : Nat); omega, by show _ ≤ (648 : Nat); omega⟩ dL_isPort_103 ?_
          refine j_icmp_ne C0 113 dL_isPort_106 (by decide) (fun z9 => absurd rfl z9) (fun _ => ?_)
          refine j_iconst C0 (v := 1) dL_isPort_109 (by decide) ?_
          refine j_goto C0 114 dL_isPort_110 (by decide) ?_
          refine j_istore C0 (L' := [(0, .ref (ad 0)), (1, .ref (ac)), (2, .ref (ap)), (3, .int (nI a)), (4, .int ((1 : Int32))), (5, .int (nI (zTk (G 9) (G 10) kk))), (6, .int (nI kk)), (7, .int ((0 : Int32)))]) dL_isPort_114 (by decide) rfl ?_
          refine j_iload C0 dL_isPort_116 rfl ?_
          refine j_iload C0 dL_isPort_118 rfl ?_
          refine j_if_eq C0 135 dL_isPort_120 (by decide) (fun _ => ?_) (fun z9 => absurd (by decide) z9)
          refine j_iconst C0 (v := 0) dL_isPort_135 (by decide) ?_
          refine j_ior C0 dL_isPort_136 ?_
          refine j_top (nI (zTk (G 9) (G 10) (kk + 1))) (zTk_f h9k q1 q2 q3) ?_
          refine j_istore C0 (L' := [(0, .ref (ad 0)), (1, .ref (ac)), (2, .ref (ap)), (3, .int (nI a)), (4, .int ((1 : Int32))), (5, .int (nI (zTk (G 9) (G 10) (kk + 1)))), (6, .int (nI kk)), (7, .int ((0 : Int32)))]) dL_isPort_137 (by decide) rfl ?_
          refine j_iinc C0 (v := nI (kk + 1)) (L' := [(0, .ref (ad 0)), (1, .ref (ac)), (2, .ref (ap)), (3, .int (nI a)), (4, .int ((1 : Int32))), (5, .int (nI (zTk (G 9) (G 10) (kk + 1)))), (6, .int (nI (kk + 1))), (7, .int ((0 : Int32)))]) dL_isPort_139 rfl (nI_inc kk) (by decide) rfl ?_
          refine j_goto C0 9 dL_isPort_142 (by decide) ?_
          refine j_widen (k := 0 + 6 * (kk + 1)) (n := 0 + 36 * (kk + 1)) (by omega) (by omega) ?_
          refine j_locals (L' := [(0, .ref (ad 0)), (1, .ref (ac)), (2, .ref (ap)), (3, .int (nI a)), (4, .int ((1 : Int32))), (5, .int (nI (zTk (G 9) (G 10) (kk + 1)))), (6, .int (nI (kk + 1)))]) (fun q hq => by simp only [List.mem_cons, List.mem_nil_iff, or_false] at hq ⊢; rcases hq with rfl | rfl | rfl | rfl | rfl | rfl | rfl <;> simp) (lok_of rfl rfl) ?_
          exact K9
        ·
          refine j_iconst C0 (v := 1) dL_isPort_50 (by decide) ?_
          refine j_goto C0 55 dL_isPort_51 (by decide) ?_
          refine j_istore C0 (L' := [(0, .ref (ad 0)), (1, .ref (ac)), (2, .ref (ap)), (3, .int (nI a)), (4, .int ((1 : Int32))), (5, .int (nI (zTk (G 9) (G 10) kk))), (6, .int (nI kk)), (7, .int ((1 : Int32)))]) dL_isPort_55 (by decide) rfl ?_
          refine j_iload C0 dL_isPort_57 rfl ?_
          refine j_if_eq C0 113 dL_isPort_59 (by decide) (fun z9 => absurd z9 (by decide)) (fun _ => ?_)
          refine j_iload C0 dL_isPort_62 rfl ?_
          refine j_if_eq C0 82 dL_isPort_64 (by decide) (fun z9 => absurd z9 (by decide)) (fun _ => ?_)
          refine j_iload C0 dL_isPort_67 rfl ?_
          refine j_aload_n C0 dL_isPort_69 rfl ?_
          refine j_bipush C0 (v := 30) dL_isPort_70 (by decide) ?_
          refine j_iload C0 dL_isPort_72 rfl ?_
          refine j_iadd C0 dL_isPort_74 ?_
          refine j_top (nI (30 + kk)) (nI_add 30 kk) ?_
          refine l_ldpN C0 (i := 30 + kk) (by omega) dL_isPort_75 (v := nI b) ((hM kk hkk).2.2.2.1.trans eb) ?_
          refine j_ishr C0 dL_isPort_76 ?_
          refine j_iconst C0 (v := 1) dL_isPort_77 (by decide) ?_
          refine j_iand C0 dL_isPort_78 ?_
          refine j_if_ne C0 113 dL_isPort_79 (by decide) (fun z9 => absurd (zTk_one hL.2.1.2.2.1 hJ.hb hkk eb hb (Or.inr (Or.inr q3))) z9) (fun _ => ?_)
          refine j_aload_n C0 dL_isPort_82 rfl ?_
          refine j_iload C0 dL_isPort_83 rfl ?_
          refine j_iload_n C0 dL_isPort_85 rfl ?_
          refine j_sipush C0 (v := 3000) dL_isPort_86 (by decide) ?_
          refine j_irem C0 dL_isPort_89 (by decide) ?_
          refine j_top (nI (a % 3000)) (pk_rem (a := a) (d := 3000) (by omega) (by first | decide | omega) (by first | decide | omega)) ?_
          refine j_callVv C0 (lv_kx (z := z) (ac := ac) (ap := ap) (cf := cf) (pf := pf) (show eX6_hasWater F G N Q (nI kk) (nI (a % 3000)) = 0 ∧ vX6_hasWater F G N Q (nI kk) (nI (a % 3000)) = vX6_hasWater F G N Q (nI kk) (nI (a % 3000)) from ⟨(zv_hasWater hkk hn0 (by omega)).1, rfl⟩).1 (show eX6_hasWater F G N Q (nI kk) (nI (a % 3000)) = 0 ∧ vX6_hasWater F G N Q (nI kk) (nI (a % 3000)) = vX6_hasWater F G N Q (nI kk) (nI (a % 3000)) from ⟨(zv_hasWater hkk hn0 (by omega)).1, rfl⟩).2 (k_X6_hasWater hsl (A := AC z ac ap) (E := EC (AC z ac ap) tE mi) (fun U h => h) ad F G N Q (nI kk) (nI (a % 3000)) hJ.hb)) mv_X6_hasWater wm_L_124 (lv_recv C0) rfl rfl ⟨Nat.le_of_ble_eq_true rfl, Nat.le_of_ble_eq_true rfl⟩ (Nat.le_of_ble_eq_true rfl) ⟨by show _ ≤ (108 : Nat); omega, by show _ ≤ (648 : Nat); omega⟩ dL_isPort_90 ?_
          refine j_aload_n C0 dL_isPort_93 rfl ?_
          refine j_aload_n C0 dL_isPort_94 rfl ?_
          refine j_aload_n C0 dL_isPort_95 rfl ?_
          refine j_iload C0 dL_isPort_96 rfl ?_
          refine j_iload_n C0 dL_isPort_98 rfl ?_
          refine j_sipush C0 (v := 3000) dL_isPort_99 (by decide) ?_
          refine j_irem C0 dL_isPort_102 (by decide) ?_
          refine j_top (nI (a % 3000)) (pk_rem (a := a) (d := 3000) (by omega) (by first | decide | omega) (by first | decide | omega)) ?_
          refine j_callSv (rest := [.int (vX6_hasWater F G N Q (nI kk) (nI (a % 3000)))]) C0 (k_L_hasWater hsl F G N Q cf pf hL kk (a % 3000) hkk (by omega)) ms_L_hasWater wm_L_128 rfl rfl ⟨Nat.le_of_ble_eq_true rfl, Nat.le_of_ble_eq_true rfl⟩ (Nat.le_of_ble_eq_true rfl) ⟨by show _ ≤ (108 : Nat); omega, by show _ ≤ (648 : Nat); omega⟩ dL_isPort_103 ?_
          refine j_icmp_ne C0 113 dL_isPort_106 (by decide) (fun z9 => absurd rfl z9) (fun _ => ?_)
          refine j_iconst C0 (v := 1) dL_isPort_109 (by decide) ?_
          refine j_goto C0 114 dL_isPort_110 (by decide) ?_
          refine j_istore C0 (L' := [(0, .ref (ad 0)), (1, .ref (ac)), (2, .ref (ap)), (3, .int (nI a)), (4, .int ((1 : Int32))), (5, .int (nI (zTk (G 9) (G 10) kk))), (6, .int (nI kk)), (7, .int ((1 : Int32)))]) dL_isPort_114 (by decide) rfl ?_
          refine j_iload C0 dL_isPort_116 rfl ?_
          refine j_iload C0 dL_isPort_118 rfl ?_
          refine j_if_eq C0 135 dL_isPort_120 (by decide) (fun z9 => absurd z9 (by decide)) (fun _ => ?_)
          refine j_iconst C0 (v := 1) dL_isPort_123 (by decide) ?_
          refine j_aload_n C0 dL_isPort_124 rfl ?_
          refine j_bipush C0 (v := 30) dL_isPort_125 (by decide) ?_
          refine j_iload C0 dL_isPort_127 rfl ?_
          refine j_iadd C0 dL_isPort_129 ?_
          refine j_top (nI (30 + kk)) (nI_add 30 kk) ?_
          refine l_ldpN C0 (i := 30 + kk) (by omega) dL_isPort_130 (v := nI b) ((hM kk hkk).2.2.2.1.trans eb) ?_
          refine j_ishl C0 dL_isPort_131 ?_
          refine j_goto C0 136 dL_isPort_132 (by decide) ?_
          refine j_ior C0 dL_isPort_136 ?_
          refine j_top (nI (zTk (G 9) (G 10) (kk + 1))) (zTk_t h9k eb hb (Or.inr (Or.inr q3))) ?_
          refine j_istore C0 (L' := [(0, .ref (ad 0)), (1, .ref (ac)), (2, .ref (ap)), (3, .int (nI a)), (4, .int ((1 : Int32))), (5, .int (nI (zTk (G 9) (G 10) (kk + 1)))), (6, .int (nI kk)), (7, .int ((1 : Int32)))]) dL_isPort_137 (by decide) rfl ?_
          refine j_iinc C0 (v := nI (kk + 1)) (L' := [(0, .ref (ad 0)), (1, .ref (ac)), (2, .ref (ap)), (3, .int (nI a)), (4, .int ((1 : Int32))), (5, .int (nI (zTk (G 9) (G 10) (kk + 1)))), (6, .int (nI (kk + 1))), (7, .int ((1 : Int32)))]) dL_isPort_139 rfl (nI_inc kk) (by decide) rfl ?_
          refine j_goto C0 9 dL_isPort_142 (by decide) ?_
          refine j_widen (k := 0 + 6 * (kk + 1)) (n := 0 + 36 * (kk + 1)) (by omega) (by omega) ?_
          refine j_locals (L' := [(0, .ref (ad 0)), (1, .ref (ac)), (2, .ref (ap)), (3, .int (nI a)), (4, .int ((1 : Int32))), (5, .int (nI (zTk (G 9) (G 10) (kk + 1)))), (6, .int (nI (kk + 1)))]) (fun q hq => by simp only [List.mem_cons, List.mem_nil_iff, or_false] at hq ⊢; rcases hq with rfl | rfl | rfl | rfl | rfl | rfl | rfl <;> simp) (lok_of rfl rfl) ?_
          exact K9
  ·
    show J p l e _ s m args below meth c (fun q => z ≤ q) 8 _ (LV D Y z tE ac ap ad F G N Q cf pf) (0 + 6 * (N 0)) (0 + 36 * (N 0)) 9 [(0, .ref (ad 0)), (1, .ref (ac)), (2, .ref (ap)), (3, .int (nI a)), (4, .int ((1 : Int32))), (5, .int (nI (zTk (G 9) (G 10) (N 0)))), (6, .int (nI (N 0)))] []
    refine j_iload C0 dL_isPort_9 rfl ?_
    refine j_aload_n C0 dL_isPort_11 rfl ?_
    refine j_iconst C0 (v := 1) dL_isPort_12 (by decide) ?_
    refine l_ldcN C0 (i := 1) (by omega) dL_isPort_13 (v := nI (N 0)) hL.2.2.2.1 ?_
    refine j_icmp_ge C0 145 dL_isPort_14 (by decide) (fun _ => ?_) (fun z9 => absurd (nI_le (Nat.le_refl _) (by omega)) z9)
    refine j_iconst C0 (v := 0) dL_isPort_145 (by decide) ?_
    refine j_istore C0 (L' := [(0, .ref (ad 0)), (1, .ref (ac)), (2, .ref (ap)), (3, .int (nI a)), (4, .int ((1 : Int32))), (5, .int (nI (zTk (G 9) (G 10) (N 0)))), (6, .int ((0 : Int32)))]) dL_isPort_146 (by decide) rfl ?_
    refine j_widen (k := 60 + 2 * 0) (n := 360 + 12 * 0) (by omega) (by omega) ?_
    refine j_castL (L' := [(0, .ref (ad 0)), (1, .ref (ac)), (2, .ref (ap)), (3, .int (nI a)), (4, .int ((1 : Int32))), (5, .int (nI (zTk (G 9) (G 10) (N 0)))), (6, .int (nI 0))]) (rfl) ?_
    refine l_loop (P := fun (jj : Nat) => J p l e _ s m args below meth c (fun q => z ≤ q) 8 _ (LV D Y z tE ac ap ad F G N Q cf pf) (60 + 2 * jj) (360 + 12 * jj) 148 [(0, .ref (ad 0)), (1, .ref (ac)), (2, .ref (ap)), (3, .int (nI a)), (4, .int ((1 : Int32))), (5, .int (nI (zTk (G 9) (G 10) (N 0)))), (6, .int (nI jj))] []) 6 ?_ (fun jj hjj K148 => ?_)
    rotate_left
    ·
      show J p l e _ s m args below meth c (fun q => z ≤ q) 8 _ (LV D Y z tE ac ap ad F G N Q cf pf) (60 + 2 * jj) (360 + 12 * jj) 148 [(0, .ref (ad 0)), (1, .ref (ac)), (2, .ref (ap)), (3, .int (nI a)), (4, .int ((1 : Int32))), (5, .int (nI (zTk (G 9) (G 10) (N 0)))), (6, .int (nI jj))] []
      replace K148 : J p l e _ s m args below meth c (fun q => z ≤ q) 8 _ (LV D Y z tE ac ap ad F G N Q cf pf) (60 + 2 * (jj + 1)) (360 + 12 * (jj + 1)) 148 [(0, .ref (ad 0)), (1, .ref (ac)), (2, .ref (ap)), (3, .int (nI a)), (4, .int ((1 : Int32))), (5, .int (nI (zTk (G 9) (G 10) (N 0)))), (6, .int (nI (jj + 1)))] [] := K148
      refine j_iload C0 dL_isPort_148 rfl ?_
      refine j_bipush C0 (v := 6) dL_isPort_150 (by decide) ?_
      refine j_icmp_ge C0 199 dL_isPort_152 (by decide) (fun z9 => absurd z9 (nI_ge (by omega) (by decide))) (fun _ => ?_)
      refine j_iload C0 dL_isPort_155 rfl ?_
      refine j_if_eq C0 190 dL_isPort_157 (by decide) (fun z9 => absurd z9 (by decide)) (fun _ => ?_)
      refine j_aload_n C0 dL_isPort_160 rfl ?_
      refine j_callVv C0 (lv_kx (z := z) (ac := ac) (ap := ap) (cf := cf) (pf := pf) (show eX6_tugs F G N Q = 0 ∧ vX6_tugs F G N Q = nI w9 from ⟨rfl, etg⟩).1 (show eX6_tugs F G N Q = 0 ∧ vX6_tugs F G N Q = nI w9 from ⟨rfl, etg⟩).2 (k_X6_tugs hsl (A := AC z ac ap) (E := EC (AC z ac ap) tE mi) (fun U h => h) ad F G N Q  )) mv_X6_tugs wm_L_64 (lv_recv C0) rfl rfl ⟨Nat.le_of_ble_eq_true rfl, Nat.le_of_ble_eq_true rfl⟩ (Nat.le_of_ble_eq_true rfl) ⟨by show _ ≤ (108 : Nat); omega, by show _ ≤ (648 : Nat); omega⟩ dL_isPort_161 ?_
      refine j_iload C0 dL_isPort_164 rfl ?_
      refine j_ishr C0 dL_isPort_166 ?_
      refine j_iconst C0 (v := 1) dL_isPort_167 (by decide) ?_
      refine j_iand C0 dL_isPort_168 ?_
      refine j_if_eq C0 186 dL_isPort_169 (by decide) (fun (qtg : ((nI w9 >>> (nI jj &&& 31)) &&& (1 : Int32)) = 0) => ?_) (fun (qtg : ¬ (((nI w9 >>> (nI jj &&& 31)) &&& (1 : Int32)) = 0)) => ?_)
      ·
        refine j_iconst C0 (v := 1) dL_isPort_186 (by decide) ?_
        refine j_goto C0 191 dL_isPort_187 (by decide) ?_
        refine j_istore C0 (L' := [(0, .ref (ad 0)), (1, .ref (ac)), (2, .ref (ap)), (3, .int (nI a)), (4, .int ((1 : Int32))), (5, .int (nI (zTk (G 9) (G 10) (N 0)))), (6, .int (nI jj))]) dL_isPort_191 (by decide) rfl ?_
        refine j_iinc C0 (v := nI (jj + 1)) (L' := [(0, .ref (ad 0)), (1, .ref (ac)), (2, .ref (ap)), (3, .int (nI a)), (4, .int ((1 : Int32))), (5, .int (nI (zTk (G 9) (G 10) (N 0)))), (6, .int (nI (jj + 1)))]) dL_isPort_193 rfl (nI_inc jj) (by decide) rfl ?_
        refine j_goto C0 148 dL_isPort_196 (by decide) ?_
        refine j_widen (k := 60 + 2 * (jj + 1)) (n := 360 + 12 * (jj + 1)) (by omega) (by omega) ?_
        exact K148
      ·
        refine j_aload_n C0 dL_isPort_172 rfl ?_
        refine j_iconst C0 (v := 0) dL_isPort_173 (by decide) ?_
        refine l_ldcN C0 (i := 0) (by omega) dL_isPort_174 (v := nI t) hL.2.2.1 ?_
        refine j_bipush C0 (v := 8) dL_isPort_175 (by decide) ?_
        refine j_idiv C0 dL_isPort_177 (by decide) ?_
        refine j_top (nI (t / 8)) (pk_div (a := t) (d := 8) (by omega) (by first | decide | omega) (by first | decide | omega)) ?_
        refine j_iload C0 dL_isPort_178 rfl ?_
        refine j_iadd C0 dL_isPort_180 ?_
        refine j_top (nI ((t / 8) + jj)) (nI_add (t / 8) jj) ?_
        refine j_iconst C0 (v := 3) dL_isPort_181 (by decide) ?_
        refine j_irem C0 dL_isPort_182 (by decide) ?_
        refine j_top (nI (((t / 8) + jj) % 3)) (pk_rem (a := (t / 8) + jj) (d := 3) (by omega) (by first | decide | omega) (by first | decide | omega)) ?_
        refine j_if_le C0 190 dL_isPort_183 (by decide) (fun z9 => absurd z9 (nI_nle (by have := hbit jj hjj (by rw [z_shb _ hw9 jj hjj] at qtg; revert qtg; cases Nat.testBit w9 jj <;> simp); omega) (by omega))) (fun _ => ?_)
        refine j_iconst C0 (v := 1) dL_isPort_186 (by decide) ?_
        refine j_goto C0 191 dL_isPort_187 (by decide) ?_
        refine j_istore C0 (L' := [(0, .ref (ad 0)), (1, .ref (ac)), (2, .ref (ap)), (3, .int (nI a)), (4, .int ((1 : Int32))), (5, .int (nI (zTk (G 9) (G 10) (N 0)))), (6, .int (nI jj))]) dL_isPort_191 (by decide) rfl ?_
        refine j_iinc C0 (v := nI (jj + 1)) (L' := [(0, .ref (ad 0)), (1, .ref (ac)), (2, .ref (ap)), (3, .int (nI a)), (4, .int ((1 : Int32))), (5, .int (nI (zTk (G 9) (G 10) (N 0)))), (6, .int (nI (jj + 1)))]) dL_isPort_193 rfl (nI_inc jj) (by decide) rfl ?_
        refine j_goto C0 148 dL_isPort_196 (by decide) ?_
        refine j_widen (k := 60 + 2 * (jj + 1)) (n := 360 + 12 * (jj + 1)) (by omega) (by omega) ?_
        exact K148
    ·
      show J p l e _ s m args below meth c (fun q => z ≤ q) 8 _ (LV D Y z tE ac ap ad F G N Q cf pf) (60 + 2 * 6) (360 + 12 * 6) 148 [(0, .ref (ad 0)), (1, .ref (ac)), (2, .ref (ap)), (3, .int (nI a)), (4, .int ((1 : Int32))), (5, .int (nI (zTk (G 9) (G 10) (N 0)))), (6, .int (nI 6))] []
      refine j_iload C0 dL_isPort_148 rfl ?_
      refine j_bipush C0 (v := 6) dL_isPort_150 (by decide) ?_
      refine j_icmp_ge C0 199 dL_isPort_152 (by decide) (fun _ => ?_) (fun z9 => absurd (nI_le (Nat.le_refl _) (by decide)) z9)
      refine j_iload C0 dL_isPort_199 rfl ?_
      refine j_if_eq C0 216 dL_isPort_201 (by decide) (fun z9 => absurd z9 (by decide)) (fun _ => ?_)
      refine j_aload_n C0 dL_isPort_204 rfl ?_
      refine j_aload_n C0 dL_isPort_205 rfl ?_
      refine j_callSv C0 (k_L_isMoney hsl F G N Q cf pf hn0 h10 hL.2.2.2.1 hL.2.1.2.1) ms_L_isMoney wm_L_101 rfl rfl ⟨Nat.le_of_ble_eq_true rfl, Nat.le_of_ble_eq_true rfl⟩ (Nat.le_of_ble_eq_true rfl) ⟨by show _ ≤ (108 : Nat); omega, by show _ ≤ (648 : Nat); omega⟩ dL_isPort_206 ?_
      refine j_if_eq C0 216 dL_isPort_209 (by decide) (fun z9 => absurd z9 (by decide)) (fun _ => ?_)
      refine j_iconst C0 (v := 1) dL_isPort_212 (by decide) ?_
      refine j_goto C0 217 dL_isPort_213 (by decide) ?_
      refine j_widen (k := 108) (n := 648) (by omega) (by omega) ?_
      exact j_zretE C0 rfl rfl (by decide) dL_isPort_217 (fun H h => h)
theorem wk_ISE : Cond.castable "java/lang/IllegalStateException" "java/lang/IllegalStateException" ∈ XB := XB_in (tb2 (List.mem_of_getElem? (i := 63) rfl)) rfl
def MSW (y : MethodName) (bytes : ByteArray) (hh : List (Nat × Nat × Nat × Nat)) (mL : Nat) (rt : Option FieldType) (n : Nat) : Prop := Cond.static y ∈ TB ∧ Cond.initialized y.cls ∈ TB ∧ Cond.codeWith y bytes mL rt hh ∈ TB ∧ (y.cls ≠ "java/lang/invoke/MethodHandle" ∧ y.cls ≠ "java/lang/invoke/VarHandle" ∧ (parseMethodDescriptor y.desc).map (fun d => d.parameters.length) = some n)
theorem MSW.good {y : MethodName} {bytes : ByteArray} {hh : List (Nat × Nat × Nat × Nat)} {mL : Nat} {rt : Option FieldType} {n : Nat} {own : String} {idx : Nat} (h : MSW y bytes hh mL rt n) (hl : Cond.methodLink own idx y ∈ TB) : GoodIn TB (va_wsS own idx y (Cond.codeWith y bytes mL rt hh :: TB)) := TB_sub (by
  obtain ⟨h1, h2, h3, -⟩ := h
  intro w hw
  unfold va_wsS at hw
  rcases List.mem_append.mp hw with hw | hw
  · simp only [List.mem_cons, List.mem_nil_iff, or_false] at hw
    rcases hw with rfl | rfl | rfl <;> assumption
  · rcases List.mem_cons.mp hw with rfl | hw
    · exact h3
    · exact hw)
theorem j_callSW {p : Program} {l : Launch} {e : Env} {R : Room} {s : State} {m : MethodId} {args : Array Value} {below : List Frame} {meth : Method} {c : Code} {Q : State → Prop} {Ω Ω' : Heap → Prop} {cells slots pc nL : Nat} {L : List (Nat × Value)} {rest stk : List Value} {own : String} {cc bytes : ByteArray} {ret rt : Option FieldType} {D : va_G} {Y : Nat → ClassId} {A : Nat → Prop} {E : State → Prop} {y : MethodName} {mL fr lo mc ms n idx : Nat} {hh : List (Nat × Nat × Nat × Nat)} (C0 : CX p l s m args meth c own cc nL ret D Y A E) {v : Value} {As : List Value} (hM : KMW l y bytes hh mL rt D Y A E fr lo mc ms As Ω (some v) Ω') (hw : MSW y bytes hh mL rt n) (hl : Cond.methodLink own idx y ∈ TB) (hn : As.length = n) (hst : stk = As.reverse ++ rest) (hR : fr + 1 ≤ R.frames ∧ 8 + (mL + 11) + lo ≤ R.locals) (hc : (rest.map fun v => v.category).sum ≤ 8) (hf : cells + mc ≤ R.cells ∧ slots + ms ≤ R.slots) (d : decode cc pc = .ok (.invokestatic idx, 3)) (kk : J p l e R s m args below meth c A nL Q Ω' (cells + mc) (slots + ms) (pc + 3) L (v :: rest)) : J p l e R s m args below meth c A nL Q Ω cells slots pc L stk := by
  intro H locs ls h1 h2 h3 h4
  subst hst
  exact hb_call (a := As.toArray) (vx_runSW (As := As) (rest := rest) ⟨C0.1, C0.2.1, C0.2.2.1, C0.2.2.2.1, C0.2.2.2.2.1⟩ hM (vx_cwSW n C0.2.2.2.2.1 (hw.good hl) rfl rfl rfl hw.2.2.2 hR) ⟨KM.blind (l := l), fun U hU hW => ⟨rfl, C0.pre h2 hU hW, by rw [hU]; exact h1⟩⟩ rfl hn h3.1 rfl (lv_room hc) d hf) h2 (fun H1 locs1 k1 k2 => kk H1 locs1 ls k1 k2 h3 h4)
theorem msw_ofBerth : MSW yL_ofBerth cL_ofBerth [(0, 6, 7, 86)] 4 (some .int) 3 := ⟨TB_in (tb2 (List.mem_of_getElem? (i := 209) rfl)) rfl, TB_in (tb1 (List.mem_of_getElem? (i := 0) rfl)) rfl, TB_in (tb2 (List.mem_of_getElem? (i := 210) rfl)) rfl, by decide +kernel⟩
theorem k_L_ofBerth {l : Launch} (hsl : l.stackTraces = false) {D : va_G} {Y : Nat → ClassId} {z tE mi ac ap : Nat} {ad : Nat → Nat} (F : Nat → Int32) (G : Nat → Nat → Int32) (N : Nat → Nat) (Q : Nat → Nat → Nat) (cf pf : Nat → Int32) (a b cc : Int32) (hz : (eX6_berth F G N Q a b = 0 ∧ cc = vX6_berth F G N Q a b) ∨ (eX6_berth F G N Q a b = 3 ∧ cc = -1)) : KMW l yL_ofBerth cL_ofBerth [(0, 6, 7, 86)] 4 (some .int) D Y (fun q => z ≤ q) (EC (fun q => z ≤ q) tE mi) 8 200 8 300 [.ref (ad 0), .int a, .int b] (LV D Y z tE ac ap ad F G N Q cf pf) (some (.int cc)) (LV D Y z tE ac ap ad F (hu G 2 (sX6_berth F G N Q a b)) N Q cf pf) := by
  have hX := lv_xm (z := z) (ac := ac) (ap := ap) (cf := cf) (pf := pf) (k_X6_berth hsl (D := D) (Y := Y) (A := AC z ac ap) (E := EC (AC z ac ap) tE mi) (fun U h => h) ad F G N Q a b)
  generalize eX6_berth F G N Q a b = k at hX hz
  refine KMW_of RL [(0, .ref (ad 0)), (1, .int a), (2, .int b)] rfl (by decide) hsl (Nat.le_of_ble_eq_true rfl) rfl (lok_of rfl rfl) ?_
  intro p e s m args below meth cd C0 hexc
  have xb := C0.2.2.2.2.2.2.2.1.2.2.1.2.2.2.2.1
  refine j_aload_n C0 dL_ofBerth_0 rfl ?_
  refine j_iload_n C0 dL_ofBerth_1 rfl ?_
  refine j_iload_n C0 dL_ofBerth_2 rfl ?_
  refine j_xcatchV C0 (As := [.int a, .int b]) (rest := []) hX mv_X6_berth wm_L_83 (lv_recv C0) rfl rfl ⟨Nat.le_of_ble_eq_true rfl, Nat.le_of_ble_eq_true rfl⟩ (Nat.le_of_ble_eq_true rfl) ⟨Nat.le_of_eq (Nat.zero_add _), Nat.le_of_eq (Nat.zero_add _)⟩ dL_ofBerth_3 (fun k0 => ?_) (fun k0 => ?_)
  · obtain ⟨e1, e2⟩ := hz.resolve_left (fun q => k0 q.1)
    subst e1
    refine ⟨[], [], (⟨0, 6, 7, 86⟩ : ExceptionTableEntry), "java/lang/IllegalStateException", hexc.trans rfl, fun z hz9 => (by cases hz9), by decide, by decide, C0.2.2.2.2.1 _ wc_L_86, va_Nw.use rfl (xb _ wk_ISE), fun q => ?_⟩
    refine j_widen (k := 8) (n := 300) (Nat.le_of_eq (Nat.zero_add _)) (Nat.le_of_eq (Nat.zero_add _)) ?_
    refine j_astore_n C0 dL_ofBerth_7 (Nat.le_of_ble_eq_true rfl) rfl ?_
    refine j_iconst C0 dL_ofBerth_8 (v := -1) rfl ?_
    rw [e2]
    exact j_iret C0 rfl dL_ofBerth_9 (fun H h => h)
  · obtain ⟨e1, e2⟩ := hz.resolve_right (fun q => by rw [k0] at q; exact absurd q.1 (by decide))
    refine j_widen (k := 8) (n := 300) (Nat.le_of_eq (Nat.zero_add _)) (Nat.le_of_eq (Nat.zero_add _)) ?_
    rw [e2]
    exact j_iret C0 rfl dL_ofBerth_6 (fun H h => h)
theorem msw_ofTable : MSW yL_ofTable cL_ofTable [(0, 6, 7, 86)] 4 (some .int) 3 := ⟨TB_in (tb2 (List.mem_of_getElem? (i := 222) rfl)) rfl, TB_in (tb1 (List.mem_of_getElem? (i := 0) rfl)) rfl, TB_in (tb2 (List.mem_of_getElem? (i := 223) rfl)) rfl, by decide +kernel⟩
theorem k_L_ofTable {l : Launch} (hsl : l.stackTraces = false) {D : va_G} {Y : Nat → ClassId} {z tE mi ac ap : Nat} {ad : Nat → Nat} (F : Nat → Int32) (G : Nat → Nat → Int32) (N : Nat → Nat) (Q : Nat → Nat → Nat) (cf pf : Nat → Int32) (a b cc : Int32) (hz : (eX6_table F G N Q a b = 0 ∧ cc = vX6_table F G N Q a b) ∨ (eX6_table F G N Q a b = 3 ∧ cc = -1)) : KMW l yL_ofTable cL_ofTable [(0, 6, 7, 86)] 4 (some .int) D Y (fun q => z ≤ q) (EC (fun q => z ≤ q) tE mi) 8 200 8 300 [.ref (ad 0), .int a, .int b] (LV D Y z tE ac ap ad F G N Q cf pf) (some (.int cc)) (LV D Y z tE ac ap ad F (hu G 0 (sX6_table F G N Q a b)) N Q cf pf) := by
  have hX := lv_xm (z := z) (ac := ac) (ap := ap) (cf := cf) (pf := pf) (k_X6_table hsl (D := D) (Y := Y) (A := AC z ac ap) (E := EC (AC z ac ap) tE mi) (fun U h => h) ad F G N Q a b)
  generalize eX6_table F G N Q a b = k at hX hz
  refine KMW_of RL [(0, .ref (ad 0)), (1, .int a), (2, .int b)] rfl (by decide) hsl (Nat.le_of_ble_eq_true rfl) rfl (lok_of rfl rfl) ?_
  intro p e s m args below meth cd C0 hexc
  have xb := C0.2.2.2.2.2.2.2.1.2.2.1.2.2.2.2.1
  refine j_aload_n C0 dL_ofTable_0 rfl ?_
  refine j_iload_n C0 dL_ofTable_1 rfl ?_
  refine j_iload_n C0 dL_ofTable_2 rfl ?_
  refine j_xcatchV C0 (As := [.int a, .int b]) (rest := []) hX mv_X6_table wm_L_88 (lv_recv C0) rfl rfl ⟨Nat.le_of_ble_eq_true rfl, Nat.le_of_ble_eq_true rfl⟩ (Nat.le_of_ble_eq_true rfl) ⟨Nat.le_of_eq (Nat.zero_add _), Nat.le_of_eq (Nat.zero_add _)⟩ dL_ofTable_3 (fun k0 => ?_) (fun k0 => ?_)
  · obtain ⟨e1, e2⟩ := hz.resolve_left (fun q => k0 q.1)
    subst e1
    refine ⟨[], [], (⟨0, 6, 7, 86⟩ : ExceptionTableEntry), "java/lang/IllegalStateException", hexc.trans rfl, fun z hz9 => (by cases hz9), by decide, by decide, C0.2.2.2.2.1 _ wc_L_86, va_Nw.use rfl (xb _ wk_ISE), fun q => ?_⟩
    refine j_widen (k := 8) (n := 300) (Nat.le_of_eq (Nat.zero_add _)) (Nat.le_of_eq (Nat.zero_add _)) ?_
    refine j_astore_n C0 dL_ofTable_7 (Nat.le_of_ble_eq_true rfl) rfl ?_
    refine j_iconst C0 dL_ofTable_8 (v := -1) rfl ?_
    rw [e2]
    exact j_iret C0 rfl dL_ofTable_9 (fun H h => h)
  · obtain ⟨e1, e2⟩ := hz.resolve_right (fun q => by rw [k0] at q; exact absurd q.1 (by decide))
    refine j_widen (k := 8) (n := 300) (Nat.le_of_eq (Nat.zero_add _)) (Nat.le_of_eq (Nat.zero_add _)) ?_
    rw [e2]
    exact j_iret C0 rfl dL_ofTable_6 (fun H h => h)
end
