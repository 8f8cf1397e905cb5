section
theorem im_Jx4a65c : ∀ w ∈ u_ws RJx4a65c TJx4a65c 3, w ∈ lw_tbl := fun w hw => (List.mem_filter.mp (in_Jx4a65c w hw)).1
theorem im_X0 : ∀ w ∈ u_ws RX0 TX0 1, w ∈ lw_tbl := fun w hw => (List.mem_filter.mp (in_X0 w hw)).1
theorem im_X1 : ∀ w ∈ u_ws RX1 TX1 5, w ∈ lw_tbl := fun w hw => (List.mem_filter.mp (in_X1 w hw)).1
theorem im_X2 : ∀ w ∈ u_ws RX2 TX2 1, w ∈ lw_tbl := fun w hw => (List.mem_filter.mp (in_X2 w hw)).1
theorem im_X3 : ∀ w ∈ u_ws RX3 TX3 2, w ∈ lw_tbl := fun w hw => (List.mem_filter.mp (in_X3 w hw)).1
theorem im_X4 : ∀ w ∈ u_ws RX4 TX4 11, w ∈ lw_tbl := fun w hw => (List.mem_filter.mp (in_X4 w hw)).1
theorem im_X5 : ∀ w ∈ u_ws RX5 TX5 3, w ∈ lw_tbl := fun w hw => (List.mem_filter.mp (in_X5 w hw)).1
theorem im_X6 : ∀ w ∈ u_ws RX6 TX6 8, w ∈ lw_tbl := fun w hw => (List.mem_filter.mp (in_X6 w hw)).1
theorem lw_stat {s : State} {args : Array Value} (hts : ∀ w ∈ lw_tbl, w.before args s = true) (hgv : (Jvm.Cond.and given_1 narrow_1).before args s = true) : ∃ (D : va_G) (Y : Nat → ClassId) (tE mi : Nat), va_K D vwCl (hbT Y) s ∧ EC (fun q => s.heap.size ≤ q) tE mi s := by
  have hs := flat_of_before _ hgv
  have hA : ∀ a : Nat, a < s.heap.size → ¬ (fun q => s.heap.size ≤ q) a := fun a h => Nat.not_le.mpr h
  obtain ⟨c2, i2, K2⟩ := u_known (C := RJx4a65c) (T := TJx4a65c) (N := 3) (n := 3) hts im_Jx4a65c (hts _ (tb1 (List.mem_of_getElem? (i := 76) rfl)))
  obtain ⟨c3, i3, K3⟩ := u_known (C := RX0) (T := TX0) (N := 1) (n := 1) hts im_X0 (hts _ (tb1 (List.mem_of_getElem? (i := 70) rfl)))
  obtain ⟨c4, i4, K4⟩ := u_known (C := RX1) (T := TX1) (N := 5) (n := 5) hts im_X1 (hts _ (tb3 (List.mem_of_getElem? (i := 161) rfl)))
  obtain ⟨c5, i5, K5⟩ := u_known (C := RX2) (T := TX2) (N := 1) (n := 1) hts im_X2 (hts _ (tb1 (List.mem_of_getElem? (i := 108) rfl)))
  obtain ⟨c6, i6, K6⟩ := u_known (C := RX3) (T := TX3) (N := 2) (n := 2) hts im_X3 (hts _ (tb1 (List.mem_of_getElem? (i := 55) rfl)))
  obtain ⟨c7, i7, K7⟩ := u_known (C := RX4) (T := TX4) (N := 11) (n := 11) hts im_X4 (hts _ (tb2 (List.mem_of_getElem? (i := 78) rfl)))
  obtain ⟨c8, i8, K8⟩ := u_known (C := RX5) (T := TX5) (N := 3) (n := 3) hts im_X5 (hts _ (tb1 (List.mem_of_getElem? (i := 32) rfl)))
  obtain ⟨c9, i9, K9⟩ := u_known (C := RX6) (T := TX6) (N := 8) (n := 8) hts im_X6 (hts _ (tb1 (List.mem_of_getElem? (i := 24) rfl)))
  obtain ⟨dC, dI, hKc⟩ : ∃ (dC : Nat → ClassId) (dI : Nat → Nat → Nat), ∀ (k : Nat) (q : vw_C), vwCl[k]? = some q → u_Kn s q.1 q.2.1 q.2.2 (dC k) (dI k) := by
    refine ⟨fun k => [c9, c9, c2, c3, c4, c5, c6, c7, c8, c9].getD k c9, fun k => [i9, i9, i2, i3, i4, i5, i6, i7, i8, i9].getD k i9, ?_⟩
    intro k q hq
    match k, hq with
    | 0, hq => cases hq; exact K9
    | 1, hq => cases hq; exact K9
    | 2, hq => cases hq; exact K2
    | 3, hq => cases hq; exact K3
    | 4, hq => cases hq; exact K4
    | 5, hq => cases hq; exact K5
    | 6, hq => cases hq; exact K6
    | 7, hq => cases hq; exact K7
    | 8, hq => cases hq; exact K8
    | 9, hq => cases hq; exact K9
    | k + 10, hq => simp [vwCl] at hq
  obtain ⟨yI, kI, pI, fI, hI, dI9⟩ := Cond.arrayClass_spec (args := args) (first := s) (o := none) (s := s) (idx := []) (type := .int) (hts _ (tb1 (List.mem_of_getElem? (i := 53) rfl)))
  have hOv := hts (.arrayOver (.object "java/lang/Object")) (tb2 (List.mem_of_getElem? (i := 177) rfl))
  obtain ⟨pO, yO, kO, gO, -, hO, dO, fO⟩ := Cond.arrayOver_spec (args := args) (first := s) (o := none) (s := s) (idx := []) (n := "java/lang/Object") hOv
  have hK : va_K (dC, dI) vwCl (hbT (fun k => [yI, yI, yO, yI].getD k yI)) s := by
    refine ⟨hKc, fun k q hq => ?_⟩
    match k, hq with
    | 0, hq => cases hq; exact ⟨fun n z => ⟨fun k h => (by cases h), kI, hI, pI, dI9⟩, fI⟩
    | 1, hq => cases hq; exact ⟨fun n z => ⟨fun k h => (by cases h), kI, hI, pI, dI9⟩, fI⟩
    | 2, hq => cases hq; exact ⟨fun n z => ⟨fun k h => (by cases h), kO, hO, pO, dO⟩, kO, pO, hO, dO, gO, fO⟩
    | 3, hq => cases hq; exact ⟨fun n z => ⟨fun k h => (by cases h), kI, hI, pI, dI9⟩, fI⟩
    | k + 4, hq => simp [hbT] at hq
  obtain ⟨tE, htE, hT⟩ := va_Tof (args := args) (s := s) (tm := .static "java/util/ArrayList" "DEFAULTCAPACITY_EMPTY_ELEMENTDATA" "[Ljava/lang/Object;") (ty := .object "java/lang/Object") (N := 0) (f := fun _ => .null) (by decide) (hs _ (by decide +kernel)) (va_eqt (hs _ (by decide +kernel))) (fun j hj => absurd hj (Nat.not_lt_zero _)) hA
  have hZ9 := va_Zref (hts _ (tb1 (List.mem_of_getElem? (i := 88) rfl))) (hts _ (tb1 (List.mem_of_getElem? (i := 8) rfl))) htE hA
  obtain ⟨mi, hmi⟩ := va_Mi.of (args := args) (s := s) (C := "[Ljava/lang/Object;") (hs _ (by decide +kernel))
  have z1 := vx_Zqof (args := args) (s := s) (C := Bundle.tN) (n := "UNASSIGNED_STACK") (d := Bundle.steD) (hts _ (tb1 (List.mem_of_getElem? (i := 178) rfl))) (hts _ (tb1 (List.mem_of_getElem? (i := 10) rfl))) (hs _ (by decide +kernel)) hA
  have z2 := vx_Zqof (args := args) (s := s) (C := Bundle.tN) (n := "SUPPRESSED_SENTINEL") (d := Bundle.listD) (hts _ (tb1 (List.mem_of_getElem? (i := 180) rfl))) (hts _ (tb1 (List.mem_of_getElem? (i := 10) rfl))) (hs _ (by decide +kernel)) hA
  refine ⟨(dC, dI), _, tE, mi, hK, ⟨hZ9, hT, va_AO.of hOv, hmi, fun w hw => va_Nw.of (onw_tab (List.mem_filter.mp hw).2) (hts w (List.mem_filter.mp hw).1), z1, z2, ?_⟩⟩
  intro q hq
  have hq2 : q = (233, "there is no such number or place") ∨ q = (236, "an argument is out of its range") ∨ q = (68, "a move has begun") ∨ q = (91, "a move has begun to or from the berth") ∨ q = (99, "there are as many ships as there may be") ∨ q = (118, "the ship is neither at sea nor moored") ∨ q = (123, "the ship has an order") ∨ q = (133, "the ship has no order") ∨ q = (149, "now would be above its last hour") ∨ q = (162, "both pilots are the same") ∨ q = (223, "the ship has no claim") := by simpa [TXs] using hq
  rcases hq2 with rfl | rfl | rfl | rfl | rfl | rfl | rfl | rfl | rfl | rfl | rfl
  · obtain ⟨a, _, _, _, q1, _⟩ := Cond.exactly_spec (args := args) (first := s) (o := none) (s := s) (idx := []) (t := .string RX6 233) (cls := "java/lang/String") (hs _ (by decide +kernel))
    exact ⟨a, vk_R.of (A := args) (hts _ (tb1 (List.mem_of_getElem? (i := 239) rfl))) q1⟩
  · obtain ⟨a, _, _, _, q1, _⟩ := Cond.exactly_spec (args := args) (first := s) (o := none) (s := s) (idx := []) (t := .string RX6 236) (cls := "java/lang/String") (hs _ (by decide +kernel))
    exact ⟨a, vk_R.of (A := args) (hts _ (tb1 (List.mem_of_getElem? (i := 192) rfl))) q1⟩
  · obtain ⟨a, _, _, _, q1, _⟩ := Cond.exactly_spec (args := args) (first := s) (o := none) (s := s) (idx := []) (t := .string RX6 68) (cls := "java/lang/String") (hs _ (by decide +kernel))
    exact ⟨a, vk_R.of (A := args) (hts _ (tb2 (List.mem_of_getElem? (i := 228) rfl))) q1⟩
  · obtain ⟨a, _, _, _, q1, _⟩ := Cond.exactly_spec (args := args) (first := s) (o := none) (s := s) (idx := []) (t := .string RX6 91) (cls := "java/lang/String") (hs _ (by decide +kernel))
    exact ⟨a, vk_R.of (A := args) (hts _ (tb2 (List.mem_of_getElem? (i := 220) rfl))) q1⟩
  · obtain ⟨a, _, _, _, q1, _⟩ := Cond.exactly_spec (args := args) (first := s) (o := none) (s := s) (idx := []) (t := .string RX6 99) (cls := "java/lang/String") (hs _ (by decide +kernel))
    exact ⟨a, vk_R.of (A := args) (hts _ (tb2 (List.mem_of_getElem? (i := 70) rfl))) q1⟩
  · obtain ⟨a, _, _, _, q1, _⟩ := Cond.exactly_spec (args := args) (first := s) (o := none) (s := s) (idx := []) (t := .string RX6 118) (cls := "java/lang/String") (hs _ (by decide +kernel))
    exact ⟨a, vk_R.of (A := args) (hts _ (tb3 (List.mem_of_getElem? (i := 6) rfl))) q1⟩
  · obtain ⟨a, _, _, _, q1, _⟩ := Cond.exactly_spec (args := args) (first := s) (o := none) (s := s) (idx := []) (t := .string RX6 123) (cls := "java/lang/String") (hs _ (by decide +kernel))
    exact ⟨a, vk_R.of (A := args) (hts _ (tb3 (List.mem_of_getElem? (i := 11) rfl))) q1⟩
  · obtain ⟨a, _, _, _, q1, _⟩ := Cond.exactly_spec (args := args) (first := s) (o := none) (s := s) (idx := []) (t := .string RX6 133) (cls := "java/lang/String") (hs _ (by decide +kernel))
    exact ⟨a, vk_R.of (A := args) (hts _ (tb3 (List.mem_of_getElem? (i := 41) rfl))) q1⟩
  · obtain ⟨a, _, _, _, q1, _⟩ := Cond.exactly_spec (args := args) (first := s) (o := none) (s := s) (idx := []) (t := .string RX6 149) (cls := "java/lang/String") (hs _ (by decide +kernel))
    exact ⟨a, vk_R.of (A := args) (hts _ (tb3 (List.mem_of_getElem? (i := 106) rfl))) q1⟩
  · obtain ⟨a, _, _, _, q1, _⟩ := Cond.exactly_spec (args := args) (first := s) (o := none) (s := s) (idx := []) (t := .string RX6 162) (cls := "java/lang/String") (hs _ (by decide +kernel))
    exact ⟨a, vk_R.of (A := args) (hts _ (tb3 (List.mem_of_getElem? (i := 59) rfl))) q1⟩
  · obtain ⟨a, _, _, _, q1, _⟩ := Cond.exactly_spec (args := args) (first := s) (o := none) (s := s) (idx := []) (t := .string RX6 223) (cls := "java/lang/String") (hs _ (by decide +kernel))
    exact ⟨a, vk_R.of (A := args) (hts _ (tb3 (List.mem_of_getElem? (i := 90) rfl))) q1⟩
end
