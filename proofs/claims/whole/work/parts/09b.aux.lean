/-! ===== names for memories ===== -/
def nm {β : Type} (x : Mm) (f : Mm → Option β) : Option β := f x
theorem sat_nm {β : Type} {x : Mm} {f : Mm → Option β} {P : β → Prop} (h : Sat (nm x f) P) : ∃ y : Mm, y = x ∧ Sat (f y) P := ⟨x, rfl, h⟩
theorem g_mem2 {K : Kx} {x y : Mm} {pc : Nat} {lv : List (Nat × Value)} {st : List Value} (e : y = x) (k : Gj K y pc lv st) : Gj K x pc lv st := e ▸ k
theorem ne_toI {x v : Int32} (h : ¬ x = v) {z : Int} (hz : v.toInt = z) : x.toInt ≠ z := fun q => h (Int32.toInt_inj.mp (q.trans hz.symm))
theorem sat_P {α : Type} {e : Option α} {P : α → Prop} {G : Prop} (h : Sat e P) (k : ∀ P0 : α → Prop, P0 = P → Sat e P0 → G) : G := k P rfl h
