theorem NW.ow {D : va_G} {A : Nat → Prop} {cel : NMs} {H : Heap} (h : NW D A cel H) {ws : va_W} (ns : List Nat) (hn : va_nd ns = true) (he : ws.map some = ns.map cel) : Ow D A ws H := by
  obtain ⟨W, pos, hk, hP, hD⟩ := h
  have key : ∀ (k : Nat) (q : Nat × va_E), ws[k]? = some q → ∃ n, ns[k]? = some n ∧ cel n = some q := by
    intro k q hq
    have h1 : (ws.map some)[k]? = some (some q) := by rw [List.getElem?_map, hq]; rfl
    rw [he, List.getElem?_map] at h1
    cases hz : ns[k]? with
    | none => rw [hz] at h1; cases h1
    | some n => rw [hz] at h1; exact ⟨n, rfl, Option.some.inj h1⟩
  refine ⟨fun k q hq => ?_, fun i j p q hp hq e => ?_, fun k q hq => ?_⟩
  · obtain ⟨n, -, h2⟩ := key k q hq
    exact hP _ q (hk.1 n q h2)
  · obtain ⟨n, h1, h2⟩ := key i p hp
    obtain ⟨n', h3, h4⟩ := key j q hq
    have e1 : n = n' := hk.2 n n' p q h2 h4 (hD.1 _ _ p q (hk.1 n p h2) (hk.1 n' q h4) e)
    subst e1
    exact va_nd_inj ns hn i j n h1 h3
  · obtain ⟨n, -, h2⟩ := key k q hq
    exact hD.2 _ q (hk.1 n q h2)
def bX7_init_167 (F : Nat → Int32) (G : Nat → Nat → Int32) (j167 : Nat) (v167 : (Nat → Int32)) : (Nat → Int32) := ((upd v167 (nI j167).toNatClampNeg ((50 : Int32))))
def bX7_init_189 (F : Nat → Int32) (G : Nat → Nat → Int32) (j189 : Nat) (v189 : (Nat → Int32) × (Nat → Int32)) : (Nat → Int32) × (Nat → Int32) := match v189 with | (v189_0, v189_1) => ((upd v189_0 (nI j189).toNatClampNeg ((60 : Int32))), (upd v189_1 (nI j189).toNatClampNeg (nI j189)))
def G0X7 : Nat → Nat → Int32 := (hu (hu (hu (fun _ _ => (0 : Int32)) 2 (nf (bX7_init_167 (fun _ => (0 : Int32)) (fun _ _ => (0 : Int32))) (((fun _ _ => (0 : Int32)) 2)) (12))) 4 (nf (bX7_init_189 (fun _ => (0 : Int32)) (fun _ _ => (0 : Int32))) (((fun _ _ => (0 : Int32)) 4), ((fun _ _ => (0 : Int32)) 16)) (6)).1) 16 (nf (bX7_init_189 (fun _ => (0 : Int32)) (fun _ _ => (0 : Int32))) (((fun _ _ => (0 : Int32)) 4), ((fun _ _ => (0 : Int32)) 16)) (6)).2)
