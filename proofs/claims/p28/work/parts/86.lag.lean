section
set_option maxRecDepth 100000 in
set_option maxHeartbeats 4000000 in
theorem ls_92 {p : Program} {l : Launch} {e : Env} {s : State} {m : MethodId} {args : Array Value} {below : List Frame} {meth : Method} {c : Code} (hsl : l.stackTraces = false) {D : va_G} {Y : Nat → ClassId} {z tE mi ac ap : Nat} {ad : Nat → Nat} (C0 : CX p l s m args meth c RL cL_step 21 (some .boolean) D Y (fun q => z ≤ q) (EC (fun q => z ≤ q) tE mi)) {t : Nat} (F : Nat → Int32) (G : Nat → Nat → Int32) (N : Nat → Nat) (Q : Nat → Nat → Nat) (cf pf : Nat → Int32) (hL : zL t F G N Q cf pf) (a b k w : Nat) (ha : a < 2 ^ 31) (hb : b < 2 ^ 31) (hk : 0 < N 0 → k < N 0) : J p l e { frames := 14, cells := 3900, slots := 33000, locals := 610 } s m args below meth c (fun q => z ≤ q) 21 (MQ below (KQ (fun q => z ≤ q) (LG D Y z tE ac ap ad) (some (.int 1))) args s 3900 33000 (fun q => z ≤ q)) (LV D Y z tE ac ap ad F G N Q cf pf) 0 0 92 [(0, .ref (ad 0)), (1, .ref (ac)), (2, .ref (ap)), (3, .int (nI w)), (4, .int (nI a)), (5, .int (nI b)), (6, .int (nI k))] [] := by
  have hn0 := hL.1.n0
  have hn1 := hL.1.n1
  have h10 := hL.2.1.1
  have htt := hL.1.tt.1
  have hM := hL.2.2.2.2.2.2.2.1
  refine j_aload_n C0 dL_step_92 rfl ?_
  refine j_iconst C0 (v := 1) dL_step_93 (by decide) ?_
  refine l_ldcN C0 (i := 1) (by omega) dL_step_94 (v := nI (N 0)) hL.2.2.2.1 ?_
  refine j_bipush C0 (v := 10) dL_step_95 (by decide) ?_
  refine j_icmp_eq C0 113 dL_step_97 (by decide) (fun (q97 : nI (N 0) = (10 : Int32)) => ?_) (fun (q97 : ¬ (nI (N 0) = (10 : Int32))) => ?_)
  ·
    refine j_iconst C0 (v := 1) dL_step_113 (by decide) ?_
    refine j_goto C0 118 dL_step_114 (by decide) ?_
    refine j_widen (k := 3900) (n := 33000) (by omega) (by omega) ?_
    exact j_zretE C0 rfl rfl (by decide) dL_step_118 (lg_of hL)
  ·
    refine j_aload_n C0 dL_step_100 rfl ?_
    refine j_aload_n C0 dL_step_101 rfl ?_
    refine j_aload_n C0 dL_step_102 rfl ?_
    refine j_iload C0 dL_step_103 rfl ?_
    refine j_iload C0 dL_step_105 rfl ?_
    refine j_callSv (rest := []) C0 (k_L_ships hsl F G N Q cf pf hL (by
          apply Classical.byContradiction
          intro z9
          have e9 : N 0 = 10 := by omega
          exact q97 (by rw [e9]; rfl)) a b ha hb) ms_L_ships wm_L_10 rfl rfl ⟨Nat.le_of_ble_eq_true rfl, Nat.le_of_ble_eq_true rfl⟩ (Nat.le_of_ble_eq_true rfl) ⟨by show _ ≤ (3900 : Nat); omega, by show _ ≤ (33000 : Nat); omega⟩ dL_step_107 ?_
    refine j_if_eq C0 117 dL_step_110 (by decide) (fun z9 => absurd z9 (by decide)) (fun _ => ?_)
    refine j_iconst C0 (v := 1) dL_step_113 (by decide) ?_
    refine j_goto C0 118 dL_step_114 (by decide) ?_
    refine j_widen (k := 3900) (n := 33000) (by omega) (by omega) ?_
    exact j_zretE C0 rfl rfl (by decide) dL_step_118 (fun H h => h)
set_option maxRecDepth 100000 in
set_option maxHeartbeats 4000000 in
theorem ls_119 {p : Program} {l : Launch} {e : Env} {s : State} {m : MethodId} {args : Array Value} {below : List Frame} {meth : Method} {c : Code} (hsl : l.stackTraces = false) {D : va_G} {Y : Nat → ClassId} {z tE mi ac ap : Nat} {ad : Nat → Nat} (C0 : CX p l s m args meth c RL cL_step 21 (some .boolean) D Y (fun q => z ≤ q) (EC (fun q => z ≤ q) tE mi)) {t : Nat} (F : Nat → Int32) (G : Nat → Nat → Int32) (N : Nat → Nat) (Q : Nat → Nat → Nat) (cf pf : Nat → Int32) (hL : zL t F G N Q cf pf) (a b k w : Nat) (ha : a < 2 ^ 31) (hb : b < 2 ^ 31) (hk : 0 < N 0 → k < N 0) : J p l e { frames := 14, cells := 3900, slots := 33000, locals := 610 } s m args below meth c (fun q => z ≤ q) 21 (MQ below (KQ (fun q => z ≤ q) (LG D Y z tE ac ap ad) (some (.int 1))) args s 3900 33000 (fun q => z ≤ q)) (LV D Y z tE ac ap ad F G N Q cf pf) 0 0 119 [(0, .ref (ad 0)), (1, .ref (ac)), (2, .ref (ap)), (3, .int (nI w)), (4, .int (nI a)), (5, .int (nI b)), (6, .int (nI k))] [] := by
  have hn0 := hL.1.n0
  have hn1 := hL.1.n1
  have h10 := hL.2.1.1
  have htt := hL.1.tt.1
  have hM := hL.2.2.2.2.2.2.2.1
  obtain ⟨cc, hcc, hA, hB⟩ := z_Lberth hL (x := a % 6) (y := b % 121) (by omega) (by omega)
  refine j_aload_n C0 dL_step_119 rfl ?_
  refine j_bipush C0 (v := 8) dL_step_120 (by decide) ?_
  refine j_iload C0 dL_step_122 rfl ?_
  refine j_bipush C0 (v := 6) dL_step_124 (by decide) ?_
  refine j_irem C0 dL_step_126 (by decide) ?_
  refine j_top (nI (a % 6)) (pk_rem (a := a) (d := 6) (by omega) (by first | decide | omega) (by first | decide | omega)) ?_
  refine j_iadd C0 dL_step_127 ?_
  refine j_top (nI (8 + (a % 6))) (nI_add 8 (a % 6)) ?_
  refine l_ldcN C0 (i := 8 + (a % 6)) (by omega) dL_step_128 (v := G 2 (a % 6)) (hL.2.2.2.2.2.2.1 (a % 6) (by omega)) ?_
  refine j_istore C0 (L' := [(0, .ref (ad 0)), (1, .ref (ac)), (2, .ref (ap)), (3, .int (nI w)), (4, .int (nI a)), (5, .int (nI b)), (6, .int (nI k)), (7, .int (G 2 (a % 6)))]) dL_step_129 (by decide) rfl ?_
  refine j_aload_n C0 dL_step_131 rfl ?_
  refine j_iload C0 dL_step_132 rfl ?_
  refine j_bipush C0 (v := 6) dL_step_134 (by decide) ?_
  refine j_irem C0 dL_step_136 (by decide) ?_
  refine j_top (nI (a % 6)) (pk_rem (a := a) (d := 6) (by omega) (by first | decide | omega) (by first | decide | omega)) ?_
  refine j_iload C0 dL_step_137 rfl ?_
  refine j_bipush C0 (v := 121) dL_step_139 (by decide) ?_
  refine j_irem C0 dL_step_141 (by decide) ?_
  refine j_top (nI (b % 121)) (pk_rem (a := b) (d := 121) (by omega) (by first | decide | omega) (by first | decide | omega)) ?_
  refine j_callSW C0 (k_L_ofBerth hsl F G N Q cf pf (nI (a % 6)) (nI (b % 121)) cc hcc) msw_ofBerth wm_L_16 rfl rfl ⟨Nat.le_of_ble_eq_true rfl, Nat.le_of_ble_eq_true rfl⟩ (Nat.le_of_ble_eq_true rfl) ⟨by show _ ≤ (3900 : Nat); omega, by show _ ≤ (33000 : Nat); omega⟩ dL_step_142 ?_
  generalize hu G 2 (sX6_berth F G N Q (nI (a % 6)) (nI (b % 121))) = G1 at hA hB ⊢
  refine j_istore C0 (L' := [(0, .ref (ad 0)), (1, .ref (ac)), (2, .ref (ap)), (3, .int (nI w)), (4, .int (nI a)), (5, .int (nI b)), (6, .int (nI k)), (7, .int (G 2 (a % 6))), (8, .int (cc))]) dL_step_145 (by decide) rfl ?_
  refine j_aload_n C0 dL_step_147 rfl ?_
  refine j_bipush C0 (v := 8) dL_step_148 (by decide) ?_
  refine j_iload C0 dL_step_150 rfl ?_
  refine j_bipush C0 (v := 6) dL_step_152 (by decide) ?_
  refine j_irem C0 dL_step_154 (by decide) ?_
  refine j_top (nI (a % 6)) (pk_rem (a := a) (d := 6) (by omega) (by first | decide | omega) (by first | decide | omega)) ?_
  refine j_iadd C0 dL_step_155 ?_
  refine j_top (nI (8 + (a % 6))) (nI_add 8 (a % 6)) ?_
  refine j_iload C0 dL_step_156 rfl ?_
  refine j_if_ge C0 166 dL_step_158 (by decide) (fun (q158 : 0 ≤ cc) => ?_) (fun (q158 : ¬ (0 ≤ cc)) => ?_)
  ·
    refine j_iload C0 dL_step_166 rfl ?_
    refine j_bipush C0 (v := 121) dL_step_168 (by decide) ?_
    refine j_irem C0 dL_step_170 (by decide) ?_
    refine j_top (nI (b % 121)) (pk_rem (a := b) (d := 121) (by omega) (by first | decide | omega) (by first | decide | omega)) ?_
    refine l_stcN C0 (i := 8 + (a % 6)) (by omega) dL_step_171 ?_
    refine j_iload C0 dL_step_172 rfl ?_
    refine j_if_ge C0 191 dL_step_174 (by decide) (fun _ => ?_) (fun z9 => absurd q158 z9)
    refine j_iload C0 dL_step_191 rfl ?_
    refine j_iload C0 dL_step_193 rfl ?_
    refine j_icmp_ne C0 202 dL_step_195 (by decide) (fun z9 => absurd (hA q158).1 z9) (fun _ => ?_)
    refine j_iconst C0 (v := 1) dL_step_198 (by decide) ?_
    refine j_goto C0 203 dL_step_199 (by decide) ?_
    refine j_widen (k := 3900) (n := 33000) (by omega) (by omega) ?_
    exact j_zretE C0 rfl rfl (by decide) dL_step_203 (lg_of (hA q158).2)
  ·
    refine j_iload C0 dL_step_161 rfl ?_
    refine j_goto C0 171 dL_step_163 (by decide) ?_
    refine l_stcN C0 (i := 8 + (a % 6)) (by omega) dL_step_171 ?_
    refine j_iload C0 dL_step_172 rfl ?_
    refine j_if_ge C0 191 dL_step_174 (by decide) (fun z9 => absurd z9 q158) (fun _ => ?_)
    refine j_aload_n C0 dL_step_177 rfl ?_
    refine j_iconst C0 (v := 2) dL_step_178 (by decide) ?_
    refine l_ldcN C0 (i := 2) (by omega) dL_step_179 (v := nI (N 1)) ((up_n (by omega)).trans hL.2.2.2.2.1) ?_
    refine j_if_le C0 187 dL_step_180 (by decide) (fun z9 => absurd z9 (nI_nle (hB q158).1 (by omega))) (fun _ => ?_)
    refine j_iconst C0 (v := 1) dL_step_183 (by decide) ?_
    refine j_goto C0 203 dL_step_184 (by decide) ?_
    refine j_widen (k := 3900) (n := 33000) (by omega) (by omega) ?_
    exact j_zretE C0 rfl rfl (by decide) dL_step_203 (lg_of (hB q158).2)
set_option maxRecDepth 100000 in
set_option maxHeartbeats 4000000 in
theorem ls_204 {p : Program} {l : Launch} {e : Env} {s : State} {m : MethodId} {args : Array Value} {below : List Frame} {meth : Method} {c : Code} (hsl : l.stackTraces = false) {D : va_G} {Y : Nat → ClassId} {z tE mi ac ap : Nat} {ad : Nat → Nat} (C0 : CX p l s m args meth c RL cL_step 21 (some .boolean) D Y (fun q => z ≤ q) (EC (fun q => z ≤ q) tE mi)) {t : Nat} (F : Nat → Int32) (G : Nat → Nat → Int32) (N : Nat → Nat) (Q : Nat → Nat → Nat) (cf pf : Nat → Int32) (hL : zL t F G N Q cf pf) (a b k w : Nat) (ha : a < 2 ^ 31) (hb : b < 2 ^ 31) (hk : 0 < N 0 → k < N 0) : J p l e { frames := 14, cells := 3900, slots := 33000, locals := 610 } s m args below meth c (fun q => z ≤ q) 21 (MQ below (KQ (fun q => z ≤ q) (LG D Y z tE ac ap ad) (some (.int 1))) args s 3900 33000 (fun q => z ≤ q)) (LV D Y z tE ac ap ad F G N Q cf pf) 0 0 204 [(0, .ref (ad 0)), (1, .ref (ac)), (2, .ref (ap)), (3, .int (nI w)), (4, .int (nI a)), (5, .int (nI b)), (6, .int (nI k))] [] := by
  have hn0 := hL.1.n0
  have hn1 := hL.1.n1
  have h10 := hL.2.1.1
  have htt := hL.1.tt.1
  have hM := hL.2.2.2.2.2.2.2.1
  obtain ⟨cc, hcc, hZ, hA, hB⟩ := z_Ltable hL (x := a % 12) (y := b % 101) (by omega) (by omega)
  refine j_aload_n C0 dL_step_204 rfl ?_
  refine j_iload C0 dL_step_205 rfl ?_
  refine j_bipush C0 (v := 12) dL_step_207 (by decide) ?_
  refine j_irem C0 dL_step_209 (by decide) ?_
  refine j_top (nI (a % 12)) (pk_rem (a := a) (d := 12) (by omega) (by first | decide | omega) (by first | decide | omega)) ?_
  refine j_iload C0 dL_step_210 rfl ?_
  refine j_bipush C0 (v := 101) dL_step_212 (by decide) ?_
  refine j_irem C0 dL_step_214 (by decide) ?_
  refine j_top (nI (b % 101)) (pk_rem (a := b) (d := 101) (by omega) (by first | decide | omega) (by first | decide | omega)) ?_
  refine j_callSW C0 (k_L_ofTable hsl F G N Q cf pf (nI (a % 12)) (nI (b % 101)) cc hcc) msw_ofTable wm_L_20 rfl rfl ⟨Nat.le_of_ble_eq_true rfl, Nat.le_of_ble_eq_true rfl⟩ (Nat.le_of_ble_eq_true rfl) ⟨by show _ ≤ (3900 : Nat); omega, by show _ ≤ (33000 : Nat); omega⟩ dL_step_215 ?_
  generalize sX6_table F G N Q (nI (a % 12)) (nI (b % 101)) = S0 at hZ hA ⊢
  refine j_istore C0 (L' := [(0, .ref (ad 0)), (1, .ref (ac)), (2, .ref (ap)), (3, .int (nI w)), (4, .int (nI a)), (5, .int (nI b)), (6, .int (nI k)), (9, .int (cc))]) dL_step_218 (by decide) rfl ?_
  refine j_iload C0 dL_step_220 rfl ?_
  refine j_if_ge C0 239 dL_step_222 (by decide) (fun (q222 : 0 ≤ cc) => ?_) (fun (q222 : ¬ (0 ≤ cc)) => ?_)
  ·
    refine j_iload C0 dL_step_239 rfl ?_
    refine j_sipush C0 (v := 150) dL_step_241 (by decide) ?_
    refine j_icmp_gt C0 271 dL_step_244 (by decide) (fun z9 => absurd z9 (Int32.not_lt.mpr (hA q222).1)) (fun _ => ?_)
    refine j_aload_n C0 dL_step_247 rfl ?_
    refine j_iload C0 dL_step_248 rfl ?_
    refine j_bipush C0 (v := 12) dL_step_250 (by decide) ?_
    refine j_irem C0 dL_step_252 (by decide) ?_
    refine j_top (nI (a % 12)) (pk_rem (a := a) (d := 12) (by omega) (by first | decide | omega) (by first | decide | omega)) ?_
    refine j_callVv C0 (lv_kx (z := z) (ac := ac) (ap := ap) (cf := cf) (pf := pf) (zv_depth (F := F) (G := (hu G 0 S0)) (N := N) (Q := Q) (h := a % 12) (by omega)).1 (zv_depth (F := F) (G := (hu G 0 S0)) (N := N) (Q := Q) (h := a % 12) (by omega)).2 (k_X6_depth hsl (A := AC z ac ap) (E := EC (AC z ac ap) tE mi) (fun U h => h) ad F (hu G 0 S0) N Q (nI (a % 12)) )) mv_X6_depth wm_L_23 (lv_recv C0) rfl rfl ⟨Nat.le_of_ble_eq_true rfl, Nat.le_of_ble_eq_true rfl⟩ (Nat.le_of_ble_eq_true rfl) ⟨by show _ ≤ (3900 : Nat); omega, by show _ ≤ (33000 : Nat); omega⟩ dL_step_253 ?_
    refine j_iload C0 dL_step_256 rfl ?_
    refine j_bipush C0 (v := 101) dL_step_258 (by decide) ?_
    refine j_irem C0 dL_step_260 (by decide) ?_
    refine j_top (nI (b % 101)) (pk_rem (a := b) (d := 101) (by omega) (by first | decide | omega) (by first | decide | omega)) ?_
    refine j_isub C0 dL_step_261 ?_
    refine j_top (G 1 (a % 12)) (by show S0 ((a % 12) % 12) + G 1 (a % 12) - nI (b % 101) = _; rw [Nat.mod_mod, (hA q222).2]; grind) ?_
    refine j_bipush C0 (v := 40) dL_step_262 (by decide) ?_
    refine j_icmp_gt C0 271 dL_step_264 (by decide) (fun z9 => absurd z9 (Int32.not_lt.mpr (Int32.le_iff_toInt_le.mpr (hL.2.1.2.2.2.2.1 _ (by omega)).2))) (fun _ => ?_)
    refine j_iconst C0 (v := 1) dL_step_267 (by decide) ?_
    refine j_goto C0 272 dL_step_268 (by decide) ?_
    refine j_widen (k := 3900) (n := 33000) (by omega) (by omega) ?_
    exact j_zretE C0 rfl rfl (by decide) dL_step_272 (lg_of hZ)
  ·
    refine j_aload_n C0 dL_step_225 rfl ?_
    refine j_iconst C0 (v := 2) dL_step_226 (by decide) ?_
    refine l_ldcN C0 (i := 2) (by omega) dL_step_227 (v := nI (N 1)) hL.2.2.2.2.1 ?_
    refine j_if_le C0 235 dL_step_228 (by decide) (fun z9 => absurd z9 (nI_nle (hB q222) (by omega))) (fun _ => ?_)
    refine j_iconst C0 (v := 1) dL_step_231 (by decide) ?_
    refine j_goto C0 272 dL_step_232 (by decide) ?_
    refine j_widen (k := 3900) (n := 33000) (by omega) (by omega) ?_
    exact j_zretE C0 rfl rfl (by decide) dL_step_272 (lg_of hZ)
set_option maxRecDepth 100000 in
set_option maxHeartbeats 4000000 in
theorem ls_273 {p : Program} {l : Launch} {e : Env} {s : State} {m : MethodId} {args : Array Value} {below : List Frame} {meth : Method} {c : Code} (hsl : l.stackTraces = false) {D : va_G} {Y : Nat → ClassId} {z tE mi ac ap : Nat} {ad : Nat → Nat} (C0 : CX p l s m args meth c RL cL_step 21 (some .boolean) D Y (fun q => z ≤ q) (EC (fun q => z ≤ q) tE mi)) {t : Nat} (F : Nat → Int32) (G : Nat → Nat → Int32) (N : Nat → Nat) (Q : Nat → Nat → Nat) (cf pf : Nat → Int32) (hL : zL t F G N Q cf pf) (a b k w : Nat) (ha : a < 2 ^ 31) (hb : b < 2 ^ 31) (hk : 0 < N 0 → k < N 0) : J p l e { frames := 14, cells := 3900, slots := 33000, locals := 610 } s m args below meth c (fun q => z ≤ q) 21 (MQ below (KQ (fun q => z ≤ q) (LG D Y z tE ac ap ad) (some (.int 1))) args s 3900 33000 (fun q => z ≤ q)) (LV D Y z tE ac ap ad F G N Q cf pf) 0 0 273 [(0, .ref (ad 0)), (1, .ref (ac)), (2, .ref (ap)), (3, .int (nI w)), (4, .int (nI a)), (5, .int (nI b)), (6, .int (nI k))] [] := by
  have hn0 := hL.1.n0
  have hn1 := hL.1.n1
  have h10 := hL.2.1.1
  have htt := hL.1.tt.1
  have hM := hL.2.2.2.2.2.2.2.1
  obtain ⟨e1, e2, e3, e4⟩ := z_Lwind hL (x := ((t + 3) + (a % 40))) (y := 1 + b % 48) (c := (nI (a / 40 % 81) - (40 : Int32))) (by omega) (by omega) (by omega) (by omega) (by have := pk_sub_toInt (a := a / 40 % 81) (b := 40) (by omega) (by omega); show -40 ≤ (nI (a / 40 % 81) - nI 40).toInt; omega) (by have := pk_sub_toInt (a := a / 40 % 81) (b := 40) (by omega) (by omega); show (nI (a / 40 % 81) - nI 40).toInt ≤ 40; omega)
  refine j_aload_n C0 dL_step_273 rfl ?_
  refine j_iconst C0 (v := 0) dL_step_274 (by decide) ?_
  refine l_ldcN C0 (i := 0) (by omega) dL_step_275 (v := nI t) hL.2.2.1 ?_
  refine j_iconst C0 (v := 3) dL_step_276 (by decide) ?_
  refine j_iadd C0 dL_step_277 ?_
  refine j_top (nI (t + 3)) (nI_add t 3) ?_
  refine j_iload C0 dL_step_278 rfl ?_
  refine j_bipush C0 (v := 40) dL_step_280 (by decide) ?_
  refine j_irem C0 dL_step_282 (by decide) ?_
  refine j_top (nI (a % 40)) (pk_rem (a := a) (d := 40) (by omega) (by first | decide | omega) (by first | decide | omega)) ?_
  refine j_iadd C0 dL_step_283 ?_
  refine j_top (nI ((t + 3) + (a % 40))) (nI_add (t + 3) (a % 40)) ?_
  refine j_istore C0 (L' := [(0, .ref (ad 0)), (1, .ref (ac)), (2, .ref (ap)), (3, .int (nI w)), (4, .int (nI a)), (5, .int (nI b)), (6, .int (nI k)), (10, .int (nI ((t + 3) + (a % 40))))]) dL_step_284 (by decide) rfl ?_
  refine j_iload C0 dL_step_286 rfl ?_
  refine j_sipush C0 (v := 3100) dL_step_288 (by decide) ?_
  refine j_icmp_le C0 310 dL_step_291 (by decide) (fun _ => ?_) (fun z9 => absurd (nI_le (b := 3100) (by omega) (by decide)) z9)
  refine j_aload_n C0 dL_step_310 rfl ?_
  refine j_iload C0 dL_step_311 rfl ?_
  refine j_callVv C0 (lv_kx (z := z) (ac := ac) (ap := ap) (cf := cf) (pf := pf) (zv_depth (F := F) (G := G) (N := N) (Q := Q) (h := (t + 3) + (a % 40)) (by omega)).1 (zv_depth (F := F) (G := G) (N := N) (Q := Q) (h := (t + 3) + (a % 40)) (by omega)).2 (k_X6_depth hsl (A := AC z ac ap) (E := EC (AC z ac ap) tE mi) (fun U h => h) ad F G N Q (nI ((t + 3) + (a % 40))) )) mv_X6_depth wm_L_23 (lv_recv C0) rfl rfl ⟨Nat.le_of_ble_eq_true rfl, Nat.le_of_ble_eq_true rfl⟩ (Nat.le_of_ble_eq_true rfl) ⟨by show _ ≤ (3900 : Nat); omega, by show _ ≤ (33000 : Nat); omega⟩ dL_step_313 ?_
  refine j_istore C0 (L' := [(0, .ref (ad 0)), (1, .ref (ac)), (2, .ref (ap)), (3, .int (nI w)), (4, .int (nI a)), (5, .int (nI b)), (6, .int (nI k)), (10, .int (nI ((t + 3) + (a % 40)))), (11, .int ((G 0 (((t + 3) + (a % 40)) % 12) + G 1 ((t + 3) + (a % 40)))))]) dL_step_316 (by decide) rfl ?_
  refine j_aload_n C0 dL_step_318 rfl ?_
  refine j_iload C0 dL_step_319 rfl ?_
  refine j_iconst C0 (v := 1) dL_step_321 (by decide) ?_
  refine j_iload C0 dL_step_322 rfl ?_
  refine j_bipush C0 (v := 48) dL_step_324 (by decide) ?_
  refine j_irem C0 dL_step_326 (by decide) ?_
  refine j_top (nI (b % 48)) (pk_rem (a := b) (d := 48) (by omega) (by first | decide | omega) (by first | decide | omega)) ?_
  refine j_iadd C0 dL_step_327 ?_
  refine j_top (nI (1 + (b % 48))) (nI_add 1 (b % 48)) ?_
  refine j_iload C0 dL_step_328 rfl ?_
  refine j_bipush C0 (v := 40) dL_step_330 (by decide) ?_
  refine j_idiv C0 dL_step_332 (by decide) ?_
  refine j_top (nI (a / 40)) (pk_div (a := a) (d := 40) (by omega) (by first | decide | omega) (by first | decide | omega)) ?_
  refine j_bipush C0 (v := 81) dL_step_333 (by decide) ?_
  refine j_irem C0 dL_step_335 (by decide) ?_
  refine j_top (nI ((a / 40) % 81)) (pk_rem (a := a / 40) (d := 81) (by omega) (by first | decide | omega) (by first | decide | omega)) ?_
  refine j_bipush C0 (v := 40) dL_step_336 (by decide) ?_
  refine j_isub C0 dL_step_338 ?_
  refine j_callVv (rest := []) (As := [.int (nI ((t + 3) + (a % 40))), .int (nI (1 + (b % 48))), .int ((nI ((a / 40) % 81) - (40 : Int32)))]) C0 (lv_kx (z := z) (ac := ac) (ap := ap) (cf := cf) (pf := pf) e1 e2 (k_X6_wind hsl (A := AC z ac ap) (E := EC (AC z ac ap) tE mi) (fun U h => h) ad F G N Q (nI ((t + 3) + (a % 40))) (nI (1 + b % 48)) (nI (a / 40 % 81) - (40 : Int32)) hL.1.hnow)) mv_X6_wind wm_L_33 (lv_recv C0) rfl rfl ⟨Nat.le_of_ble_eq_true rfl, Nat.le_of_ble_eq_true rfl⟩ (Nat.le_of_ble_eq_true rfl) ⟨by show _ ≤ (3900 : Nat); omega, by show _ ≤ (33000 : Nat); omega⟩ dL_step_339 ?_
  generalize sX6_wind F G N Q (nI ((t + 3) + (a % 40))) (nI (1 + b % 48)) (nI (a / 40 % 81) - (40 : Int32)) = S1 at e3 e4 ⊢
  refine j_istore C0 (L' := [(0, .ref (ad 0)), (1, .ref (ac)), (2, .ref (ap)), (3, .int (nI w)), (4, .int (nI a)), (5, .int (nI b)), (6, .int (nI k)), (10, .int (nI ((t + 3) + (a % 40)))), (11, .int ((G 0 (((t + 3) + (a % 40)) % 12) + G 1 ((t + 3) + (a % 40))))), (12, .int (G 1 ((t + 3) + (a % 40))))]) dL_step_342 (by decide) rfl ?_
  refine j_aload_n C0 dL_step_344 rfl ?_
  refine j_iload C0 dL_step_345 rfl ?_
  refine j_callVv C0 (lv_kx (z := z) (ac := ac) (ap := ap) (cf := cf) (pf := pf) (zv_depth (F := F) (G := (hu G 1 S1)) (N := N) (Q := Q) (h := (t + 3) + (a % 40)) (by omega)).1 (zv_depth (F := F) (G := (hu G 1 S1)) (N := N) (Q := Q) (h := (t + 3) + (a % 40)) (by omega)).2 (k_X6_depth hsl (A := AC z ac ap) (E := EC (AC z ac ap) tE mi) (fun U h => h) ad F (hu G 1 S1) N Q (nI ((t + 3) + (a % 40))) )) mv_X6_depth wm_L_23 (lv_recv C0) rfl rfl ⟨Nat.le_of_ble_eq_true rfl, Nat.le_of_ble_eq_true rfl⟩ (Nat.le_of_ble_eq_true rfl) ⟨by show _ ≤ (3900 : Nat); omega, by show _ ≤ (33000 : Nat); omega⟩ dL_step_347 ?_
  refine j_iload C0 dL_step_350 rfl ?_
  refine j_bipush C0 (v := 40) dL_step_352 (by decide) ?_
  refine j_idiv C0 dL_step_354 (by decide) ?_
  refine j_top (nI (a / 40)) (pk_div (a := a) (d := 40) (by omega) (by first | decide | omega) (by first | decide | omega)) ?_
  refine j_bipush C0 (v := 81) dL_step_355 (by decide) ?_
  refine j_irem C0 dL_step_357 (by decide) ?_
  refine j_top (nI ((a / 40) % 81)) (pk_rem (a := a / 40) (d := 81) (by omega) (by first | decide | omega) (by first | decide | omega)) ?_
  refine j_bipush C0 (v := 40) dL_step_358 (by decide) ?_
  refine j_isub C0 dL_step_360 ?_
  refine j_isub C0 dL_step_361 ?_
  refine j_iload C0 dL_step_362 rfl ?_
  refine j_iload C0 dL_step_364 rfl ?_
  refine j_isub C0 dL_step_366 ?_
  refine j_icmp_ne C0 374 dL_step_367 (by decide) (fun z9 => absurd (by show G 0 (((t + 3) + (a % 40)) % 12) + S1 ((t + 3) + (a % 40)) - (nI (a / 40 % 81) - (40 : Int32)) = G 0 (((t + 3) + (a % 40)) % 12) + G 1 ((t + 3) + (a % 40)) - G 1 ((t + 3) + (a % 40)); rw [e3]; grind) z9) (fun _ => ?_)
  refine j_iconst C0 (v := 1) dL_step_370 (by decide) ?_
  refine j_goto C0 375 dL_step_371 (by decide) ?_
  refine j_widen (k := 3900) (n := 33000) (by omega) (by omega) ?_
  exact j_zretE C0 rfl rfl (by decide) dL_step_375 (lg_of e4)
end
