/-! ===== layouts: a world as a list of cells, each drawn from one row of the memory ===== -/
def wdG (F : Nat → (Nat → Int32) → va_E) (Ad : Nat → Nat) (N : Nat) (σ : Mm) : va_W := (List.range N).map (fun k => (Ad k, F k (σ k)))
theorem wdG_get {F : Nat → (Nat → Int32) → va_E} {Ad : Nat → Nat} {N k : Nat} {σ : Mm} (h : k < N) : (wdG F Ad N σ)[k]? = some (Ad k, F k (σ k)) := by
  unfold wdG
  rw [List.getElem?_map, List.getElem?_range h]
  rfl
theorem wdG_len {F : Nat → (Nat → Int32) → va_E} {Ad : Nat → Nat} {N : Nat} {σ : Mm} : (wdG F Ad N σ).length = N := by
  unfold wdG
  rw [List.length_map, List.length_range]
theorem wdG_none {F : Nat → (Nat → Int32) → va_E} {Ad : Nat → Nat} {N k : Nat} {σ : Mm} (h : ¬ k < N) : (wdG F Ad N σ)[k]? = none := List.getElem?_eq_none (by rw [wdG_len]; omega)
theorem wdG_set {F : Nat → (Nat → Int32) → va_E} {Ad : Nat → Nat} {N k : Nat} {σ : Mm} {r : Nat → Int32} (h : k < N) : (wdG F Ad N σ).set k (Ad k, F k r) = wdG F Ad N (va_up σ k r) := by
  apply List.ext_getElem?
  intro j
  by_cases hj : j < N
  · by_cases e : j = k
    · subst e
      rw [List.getElem?_set_self (by rw [wdG_len]; exact hj), wdG_get hj]
      simp [va_up]
    · rw [List.getElem?_set_ne (Ne.symm e), wdG_get hj, wdG_get hj]
      simp [va_up, e]
  · rw [wdG_none hj]
    exact List.getElem?_eq_none (by rw [List.length_set, wdG_len]; omega)
theorem wdG_ok (F : Nat → (Nat → Int32) → va_E) (Ad : Nat → Nat) (N : Nat) : WfOK (wdG F Ad N) := by
  have key : ∀ (σ τ : Mm) (k : Nat) (q : Nat × va_E), (wdG F Ad N σ)[k]? = some q → ∃ e, (wdG F Ad N τ)[k]? = some (q.1, e) := by
    intro σ τ k q h
    by_cases hk : k < N
    · rw [wdG_get hk] at h
      cases h
      exact ⟨_, wdG_get hk⟩
    · rw [wdG_none hk] at h
      cases h
  refine ⟨fun A σ τ hD => ⟨fun i j p q hi hj hpq => ?_, fun k q hk => ?_⟩, fun σ τ sz q h => ?_⟩
  · obtain ⟨e1, h1⟩ := key τ σ i p hi
    obtain ⟨e2, h2⟩ := key τ σ j q hj
    exact hD.1 i j _ _ h1 h2 hpq
  · obtain ⟨e1, h1⟩ := key τ σ k q hk
    exact hD.2 k (q.1, e1) h1
  · rcases h with ⟨k, e, h⟩ | h
    · obtain ⟨e1, h1⟩ := key σ τ k _ h
      exact Or.inl ⟨k, e1, h1⟩
    · exact Or.inr h
abbrev vR (f : Nat → Option Nat) : (Nat → Int32) ⊕ (Nat → Int64) ⊕ (Nat → UInt32) ⊕ (Nat → UInt64) ⊕ (Nat → Option Nat) := .inr (.inr (.inr (.inr f)))
/-! the class -/
def kdC (k : Nat) : Nat := if k = 0 then 3 else if k = 1 then 5 else if k = 2 then 6 else if k = 3 then 1 else if k = 4 ∨ k = 6 then 7 else if k < 31 then 5 else if 76 ≤ k then 99 else if (k - 31) % 15 = 0 then 2 else if (k - 31) % 15 = 7 ∨ (k - 31) % 15 = 11 then 0 else 5
def lnC (k : Nat) : Nat := if k = 1 then 4 else if 7 ≤ k ∧ k < 31 then 60 else 12
theorem kdC_lt {k : Nat} (h : ¬ kdC k = 99) : k < 76 := by
  rcases Nat.lt_or_ge k 76 with q | q
  · exact q
  · refine absurd ?_ h
    unfold kdC
    simp only [show ¬ k = 0 by omega, show ¬ k = 1 by omega, show ¬ k = 2 by omega, show ¬ k = 3 by omega, show ¬ (k = 4 ∨ k = 6) by omega, show ¬ k < 31 by omega, q, if_true, if_false]
def FC (Ad : Nat → Nat) (cI cP cII : ClassId) (k : Nat) (r : Nat → Int32) : va_E :=
  if kdC k = 5 then .inl (cI, lnC k, .inl r)
  else if kdC k = 2 then .inr (2, [.int (r 0), .ref (Ad (k + 1)), .ref (Ad (k + 2)), .ref (Ad (k + 3)), .ref (Ad (k + 4)), .ref (Ad (k + 5)), .ref (Ad (k + 6)), .int (r 1), .int (r 2), .ref (Ad (k + 7)), .ref (Ad (k + 11))])
  else if kdC k = 0 then .inr (0, [.int (r 0), .ref (Ad (k + 1)), .ref (Ad (k + 2)), .ref (Ad (k + 3))])
  else if kdC k = 3 then .inr (3, [.ref (Ad 1), .ref (Ad 2), .ref (Ad 3)])
  else if kdC k = 1 then .inr (1, [.ref (Ad 4), .ref (Ad 5), .ref (Ad 6)])
  else if kdC k = 6 then .inl (cP, 3, vR (fun i => if i < 3 then some (Ad (31 + 15 * i)) else none))
  else if k = 4 then .inl (cII, 12, vR (fun i => if i < 12 then some (Ad (7 + i)) else none))
  else .inl (cII, 12, vR (fun i => if i < 12 then some (Ad (19 + i)) else none))
def wdC (Ad : Nat → Nat) (cI cP cII : ClassId) : Mm → va_W := wdG (FC Ad cI cP cII) Ad 76
def tysC (cI cP cII : ClassId) : List (ClassId × FieldType) := [(cI, .int), (cP, .object "FourStrings$Part"), (cII, .array .int)]
def stepsV : Nat → Value := fun j => .int (match j with | 0 => 0 | 1 => 0 | 2 => 2 | 3 => 4 | 4 => 5 | 5 => 0 | 6 => 1 | 7 => 3 | 8 => 5 | _ => 6)
def StC (A : Nat → Prop) (U : State) (H : Heap) : Prop := (∃ t : Nat, va_Z "FourStrings$Way" "STEPS" "[I" (.ref t) A U H ∧ va_T .int t 10 stepsV A U H) ∧ True
theorem stOK_C : StOK StC := by
  refine ⟨fun A u U H e h => ?_, fun A u U H hW h => ?_, fun A U H H1 hq h => ?_, fun A B U H hAB h => ?_⟩
  · obtain ⟨⟨t, h1, h2⟩, h3⟩ := h
    exact ⟨⟨t, h1.moved (by rw [← e]; exact Vm.Alike.refl u.vm), h2.moved (by rw [← e]; exact Vm.Alike.refl u.vm)⟩, h3⟩
  · obtain ⟨⟨t, h1, h2⟩, h3⟩ := h
    exact ⟨⟨t, h1.moved hW.alike, h2.moved hW.alike⟩, h3⟩
  · obtain ⟨⟨t, h1, h2⟩, h3⟩ := h
    exact ⟨⟨t, h1.kept hq, h2.kept hq⟩, h3⟩
  · obtain ⟨⟨t, h1, h2⟩, h3⟩ := h
    exact ⟨⟨t, h1.narrow hAB, h2.narrow hAB⟩, h3⟩
def inC (k : Nat) (i : Int32) : Bool := (kdC k == 5) && inb i (lnC k)
def CxC (K : Kx) (cc : ByteArray) (own : String) (nL d : Nat) (rty : Option FieldType) : Prop := Cx K cc own nL d rty ∧ kwf K = wdC (kAd K) (kcI K) (kcP K) (kcII K) ∧ ktys K = tysC (kcI K) (kcP K) (kcII K) ∧ kSt K = StC
section LC
variable {K : Kx} {cc : ByteArray} {own : String} {nL d : Nat} {rty : Option FieldType} {σ : Mm} {pc : Nat} {lv : List (Nat × Value)} {st rest : List Value} {k : Nat}
theorem cC_at (C : CxC K cc own nL d rty) (h : k < 76) : (kwf K σ)[k]? = some (kAd K k, FC (kAd K) (kcI K) (kcP K) (kcII K) k (σ k)) := by
  rw [C.2.1]
  exact wdG_get h
theorem cC_set (C : CxC K cc own nL d rty) (h : k < 76) (r : Nat → Int32) : (kwf K σ).set k (kAd K k, FC (kAd K) (kcI K) (kcP K) (kcII K) k r) = kwf K (va_up σ k r) := by
  rw [C.2.1]
  exact wdG_set h
theorem inC_1 {i : Int32} (h : inC k i = true) : kdC k = 5 ∧ inb i (lnC k) = true := by
  unfold inC at h
  rw [Bool.and_eq_true] at h
  exact ⟨eq_of_beq h.1, h.2⟩
theorem FC5 {Ad : Nat → Nat} {cI cP cII : ClassId} {r : Nat → Int32} (h : kdC k = 5) : FC Ad cI cP cII k r = .inl (cI, lnC k, .inl r) := by
  unfold FC
  rw [if_pos h]
theorem FC2 {Ad : Nat → Nat} {cI cP cII : ClassId} {r : Nat → Int32} (h : kdC k = 2) : FC Ad cI cP cII k r = .inr (2, [.int (r 0), .ref (Ad (k + 1)), .ref (Ad (k + 2)), .ref (Ad (k + 3)), .ref (Ad (k + 4)), .ref (Ad (k + 5)), .ref (Ad (k + 6)), .int (r 1), .int (r 2), .ref (Ad (k + 7)), .ref (Ad (k + 11))]) := by
  unfold FC
  rw [if_neg (by omega), if_pos h]
theorem FC0 {Ad : Nat → Nat} {cI cP cII : ClassId} {r : Nat → Int32} (h : kdC k = 0) : FC Ad cI cP cII k r = .inr (0, [.int (r 0), .ref (Ad (k + 1)), .ref (Ad (k + 2)), .ref (Ad (k + 3))]) := by
  unfold FC
  rw [if_neg (by omega), if_neg (by omega), if_pos h]
theorem c_iald (C : CxC K cc own nL d rty) {i : Int32} (h : inC k i = true) (hdg : decode cc pc = .ok (.iaload, 1)) (kk : Gj K σ (pc + 1) lv (.int (σ k i.toNatClampNeg) :: rest)) : Gj K σ pc lv (.int i :: .ref (kAd K k) :: rest) :=
  g_iald C.1 (n := lnC k) (f := σ k) (by rw [cC_at C (kdC_lt (by rw [(inC_1 h).1]; decide)), FC5 (inC_1 h).1]) (inC_1 h).2 hdg kk
theorem c_iast (C : CxC K cc own nL d rty) {i x : Int32} (h : inC k i = true) (hdg : decode cc pc = .ok (.iastore, 1)) (kk : Gj K (ms σ k i.toNatClampNeg x) (pc + 1) lv rest) : Gj K σ pc lv (.int x :: .int i :: .ref (kAd K k) :: rest) := by
  have hk : k < 76 := kdC_lt (by rw [(inC_1 h).1]; decide)
  refine g_iast C.1 (n := lnC k) (f := σ k) (τ := ms σ k i.toNatClampNeg x) (by rw [cC_at C hk, FC5 (inC_1 h).1]) ?_ (inC_1 h).2 hdg kk
  have e := cC_set (σ := σ) C hk (upd (σ k) i.toNatClampNeg x)
  rw [FC5 (inC_1 h).1] at e
  exact e
theorem cC_o2 (C : CxC K cc own nL d rty) (h : kdC k = 2) : (kwf K σ)[k]? = some (kAd K k, .inr (2, [.int (σ k 0), .ref (kAd K (k + 1)), .ref (kAd K (k + 2)), .ref (kAd K (k + 3)), .ref (kAd K (k + 4)), .ref (kAd K (k + 5)), .ref (kAd K (k + 6)), .int (σ k 1), .int (σ k 2), .ref (kAd K (k + 7)), .ref (kAd K (k + 11))])) := by
  rw [cC_at C (kdC_lt (by omega)), FC2 h]
theorem cC_o0 (C : CxC K cc own nL d rty) (h : kdC k = 0) : (kwf K σ)[k]? = some (kAd K k, .inr (0, [.int (σ k 0), .ref (kAd K (k + 1)), .ref (kAd K (k + 2)), .ref (kAd K (k + 3))])) := by
  rw [cC_at C (kdC_lt (by omega)), FC0 h]
theorem cC_o3 (C : CxC K cc own nL d rty) : (kwf K σ)[0]? = some (kAd K 0, .inr (3, [.ref (kAd K 1), .ref (kAd K 2), .ref (kAd K 3)])) := by
  rw [cC_at C (by decide)]
  rfl
theorem cC_o1 (C : CxC K cc own nL d rty) : (kwf K σ)[3]? = some (kAd K 3, .inr (1, [.ref (kAd K 4), .ref (kAd K 5), .ref (kAd K 6)])) := by
  rw [cC_at C (by decide)]
  rfl
theorem inb_lt {i : Int32} {n : Nat} (h : inb i n = true) : i.toNatClampNeg < n := by
  unfold inb at h
  rw [Bool.and_eq_true] at h
  exact of_decide_eq_true h.2
theorem c_aald2 (C : CxC K cc own nL d rty) {i : Int32} (h : inb i 3 = true) (hdg : decode cc pc = .ok (.aaload, 1)) (kk : Gj K σ (pc + 1) lv (.ref (kAd K (31 + 15 * i.toNatClampNeg)) :: rest)) : Gj K σ pc lv (.int i :: .ref (kAd K 2) :: rest) :=
  g_aald C.1 (q := 2) (n := 3) (t0 := 1) (cA := kcP K) (ty := .object "FourStrings$Part") (f := fun i => if i < 3 then some (kAd K (31 + 15 * i)) else none) (by rw [C.2.2.1]; rfl) rfl (by rw [cC_at C (by decide)]; rfl) h (if_pos (inb_lt h)) hdg kk
theorem c_aald4 (C : CxC K cc own nL d rty) {i : Int32} (h : inb i 12 = true) (hdg : decode cc pc = .ok (.aaload, 1)) (kk : Gj K σ (pc + 1) lv (.ref (kAd K (7 + i.toNatClampNeg)) :: rest)) : Gj K σ pc lv (.int i :: .ref (kAd K 4) :: rest) :=
  g_aald C.1 (q := 4) (n := 12) (t0 := 2) (cA := kcII K) (ty := .array .int) (f := fun i => if i < 12 then some (kAd K (7 + i)) else none) (by rw [C.2.2.1]; rfl) rfl (by rw [cC_at C (by decide)]; rfl) h (if_pos (inb_lt h)) hdg kk
theorem c_aald6 (C : CxC K cc own nL d rty) {i : Int32} (h : inb i 12 = true) (hdg : decode cc pc = .ok (.aaload, 1)) (kk : Gj K σ (pc + 1) lv (.ref (kAd K (19 + i.toNatClampNeg)) :: rest)) : Gj K σ pc lv (.int i :: .ref (kAd K 6) :: rest) :=
  g_aald C.1 (q := 6) (n := 12) (t0 := 2) (cA := kcII K) (ty := .array .int) (f := fun i => if i < 12 then some (kAd K (19 + i)) else none) (by rw [C.2.2.1]; rfl) rfl (by rw [cC_at C (by decide)]; rfl) h (if_pos (inb_lt h)) hdg kk
theorem c_get_P_count (C : CxC K cc own nL d rty) {index : Nat} (h : kdC k = 2) (hw : Cond.fieldLink own index "FourStrings$Part" "count" "I" ∈ TBg) (hdg : decode cc pc = .ok (.getfield index, 3)) (kk : Gj K σ (pc + 3) lv (.int (σ k 0) :: rest)) : Gj K σ pc lv (.ref (kAd K (k)) :: rest) := g_get C.1 0 (cC_o2 C h) rfl iu_X3 (by decide) rfl rfl hw hdg kk
theorem c_get_P_pitches (C : CxC K cc own nL d rty) {index : Nat} (h : kdC k = 2) (hw : Cond.fieldLink own index "FourStrings$Part" "pitches" "[I" ∈ TBg) (hdg : decode cc pc = .ok (.getfield index, 3)) (kk : Gj K σ (pc + 3) lv (.ref (kAd K (k + 1)) :: rest)) : Gj K σ pc lv (.ref (kAd K (k)) :: rest) := g_get C.1 1 (cC_o2 C h) rfl iu_X3 (by decide) rfl rfl hw hdg kk
theorem c_get_P_seconds (C : CxC K cc own nL d rty) {index : Nat} (h : kdC k = 2) (hw : Cond.fieldLink own index "FourStrings$Part" "seconds" "[I" ∈ TBg) (hdg : decode cc pc = .ok (.getfield index, 3)) (kk : Gj K σ (pc + 3) lv (.ref (kAd K (k + 2)) :: rest)) : Gj K σ pc lv (.ref (kAd K (k)) :: rest) := g_get C.1 2 (cC_o2 C h) rfl iu_X3 (by decide) rfl rfl hw hdg kk
theorem c_get_P_lengths (C : CxC K cc own nL d rty) {index : Nat} (h : kdC k = 2) (hw : Cond.fieldLink own index "FourStrings$Part" "lengths" "[I" ∈ TBg) (hdg : decode cc pc = .ok (.getfield index, 3)) (kk : Gj K σ (pc + 3) lv (.ref (kAd K (k + 3)) :: rest)) : Gj K σ pc lv (.ref (kAd K (k)) :: rest) := g_get C.1 3 (cC_o2 C h) rfl iu_X3 (by decide) rfl rfl hw hdg kk
theorem c_get_P_onsets (C : CxC K cc own nL d rty) {index : Nat} (h : kdC k = 2) (hw : Cond.fieldLink own index "FourStrings$Part" "onsets" "[I" ∈ TBg) (hdg : decode cc pc = .ok (.getfield index, 3)) (kk : Gj K σ (pc + 3) lv (.ref (kAd K (k + 4)) :: rest)) : Gj K σ pc lv (.ref (kAd K (k)) :: rest) := g_get C.1 4 (cC_o2 C h) rfl iu_X3 (by decide) rfl rfl hw hdg kk
theorem c_get_P_marks (C : CxC K cc own nL d rty) {index : Nat} (h : kdC k = 2) (hw : Cond.fieldLink own index "FourStrings$Part" "marks" "[I" ∈ TBg) (hdg : decode cc pc = .ok (.getfield index, 3)) (kk : Gj K σ (pc + 3) lv (.ref (kAd K (k + 5)) :: rest)) : Gj K σ pc lv (.ref (kAd K (k)) :: rest) := g_get C.1 5 (cC_o2 C h) rfl iu_X3 (by decide) rfl rfl hw hdg kk
theorem c_get_P_fingering (C : CxC K cc own nL d rty) {index : Nat} (h : kdC k = 2) (hw : Cond.fieldLink own index "FourStrings$Part" "fingering" "[I" ∈ TBg) (hdg : decode cc pc = .ok (.getfield index, 3)) (kk : Gj K σ (pc + 3) lv (.ref (kAd K (k + 6)) :: rest)) : Gj K σ pc lv (.ref (kAd K (k)) :: rest) := g_get C.1 6 (cC_o2 C h) rfl iu_X3 (by decide) rfl rfl hw hdg kk
theorem c_get_P_fingeringCost (C : CxC K cc own nL d rty) {index : Nat} (h : kdC k = 2) (hw : Cond.fieldLink own index "FourStrings$Part" "fingeringCost" "I" ∈ TBg) (hdg : decode cc pc = .ok (.getfield index, 3)) (kk : Gj K σ (pc + 3) lv (.int (σ k 1) :: rest)) : Gj K σ pc lv (.ref (kAd K (k)) :: rest) := g_get C.1 7 (cC_o2 C h) rfl iu_X3 (by decide) rfl rfl hw hdg kk
theorem c_get_P_isFingered (C : CxC K cc own nL d rty) {index : Nat} (h : kdC k = 2) (hw : Cond.fieldLink own index "FourStrings$Part" "isFingered" "Z" ∈ TBg) (hdg : decode cc pc = .ok (.getfield index, 3)) (kk : Gj K σ (pc + 3) lv (.int (σ k 2) :: rest)) : Gj K σ pc lv (.ref (kAd K (k)) :: rest) := g_get C.1 8 (cC_o2 C h) rfl iu_X3 (by decide) rfl rfl hw hdg kk
theorem c_get_P_down (C : CxC K cc own nL d rty) {index : Nat} (h : kdC k = 2) (hw : Cond.fieldLink own index "FourStrings$Part" "down" "LFourStrings$Bowing;" ∈ TBg) (hdg : decode cc pc = .ok (.getfield index, 3)) (kk : Gj K σ (pc + 3) lv (.ref (kAd K (k + 7)) :: rest)) : Gj K σ pc lv (.ref (kAd K (k)) :: rest) := g_get C.1 9 (cC_o2 C h) rfl iu_X3 (by decide) rfl rfl hw hdg kk
theorem c_get_P_up (C : CxC K cc own nL d rty) {index : Nat} (h : kdC k = 2) (hw : Cond.fieldLink own index "FourStrings$Part" "up" "LFourStrings$Bowing;" ∈ TBg) (hdg : decode cc pc = .ok (.getfield index, 3)) (kk : Gj K σ (pc + 3) lv (.ref (kAd K (k + 11)) :: rest)) : Gj K σ pc lv (.ref (kAd K (k)) :: rest) := g_get C.1 10 (cC_o2 C h) rfl iu_X3 (by decide) rfl rfl hw hdg kk
theorem c_get_B_cost (C : CxC K cc own nL d rty) {index : Nat} (h : kdC k = 0) (hw : Cond.fieldLink own index "FourStrings$Bowing" "cost" "I" ∈ TBg) (hdg : decode cc pc = .ok (.getfield index, 3)) (kk : Gj K σ (pc + 3) lv (.int (σ k 0) :: rest)) : Gj K σ pc lv (.ref (kAd K (k)) :: rest) := g_get C.1 0 (cC_o0 C h) rfl iu_X0 (by decide) rfl rfl hw hdg kk
theorem c_get_B_directions (C : CxC K cc own nL d rty) {index : Nat} (h : kdC k = 0) (hw : Cond.fieldLink own index "FourStrings$Bowing" "directions" "[I" ∈ TBg) (hdg : decode cc pc = .ok (.getfield index, 3)) (kk : Gj K σ (pc + 3) lv (.ref (kAd K (k + 1)) :: rest)) : Gj K σ pc lv (.ref (kAd K (k)) :: rest) := g_get C.1 1 (cC_o0 C h) rfl iu_X0 (by decide) rfl rfl hw hdg kk
theorem c_get_B_behindDown (C : CxC K cc own nL d rty) {index : Nat} (h : kdC k = 0) (hw : Cond.fieldLink own index "FourStrings$Bowing" "behindDown" "[I" ∈ TBg) (hdg : decode cc pc = .ok (.getfield index, 3)) (kk : Gj K σ (pc + 3) lv (.ref (kAd K (k + 2)) :: rest)) : Gj K σ pc lv (.ref (kAd K (k)) :: rest) := g_get C.1 2 (cC_o0 C h) rfl iu_X0 (by decide) rfl rfl hw hdg kk
theorem c_get_B_behindUp (C : CxC K cc own nL d rty) {index : Nat} (h : kdC k = 0) (hw : Cond.fieldLink own index "FourStrings$Bowing" "behindUp" "[I" ∈ TBg) (hdg : decode cc pc = .ok (.getfield index, 3)) (kk : Gj K σ (pc + 3) lv (.ref (kAd K (k + 3)) :: rest)) : Gj K σ pc lv (.ref (kAd K (k)) :: rest) := g_get C.1 3 (cC_o0 C h) rfl iu_X0 (by decide) rfl rfl hw hdg kk
theorem c_get_F_open (C : CxC K cc own nL d rty) {index : Nat} (hw : Cond.fieldLink own index "FourStrings" "open" "[I" ∈ TBg) (hdg : decode cc pc = .ok (.getfield index, 3)) (kk : Gj K σ (pc + 3) lv (.ref (kAd K 1) :: rest)) : Gj K σ pc lv (.ref (kAd K (0)) :: rest) := g_get C.1 0 (cC_o3 C) rfl iu_X5 (by decide) rfl rfl hw hdg kk
theorem c_get_F_parts (C : CxC K cc own nL d rty) {index : Nat} (hw : Cond.fieldLink own index "FourStrings" "parts" "[LFourStrings$Part;" ∈ TBg) (hdg : decode cc pc = .ok (.getfield index, 3)) (kk : Gj K σ (pc + 3) lv (.ref (kAd K 2) :: rest)) : Gj K σ pc lv (.ref (kAd K (0)) :: rest) := g_get C.1 1 (cC_o3 C) rfl iu_X5 (by decide) rfl rfl hw hdg kk
theorem c_get_F_desk (C : CxC K cc own nL d rty) {index : Nat} (hw : Cond.fieldLink own index "FourStrings" "desk" "LFourStrings$Desk;" ∈ TBg) (hdg : decode cc pc = .ok (.getfield index, 3)) (kk : Gj K σ (pc + 3) lv (.ref (kAd K 3) :: rest)) : Gj K σ pc lv (.ref (kAd K (0)) :: rest) := g_get C.1 2 (cC_o3 C) rfl iu_X5 (by decide) rfl rfl hw hdg kk
theorem c_get_D_keys (C : CxC K cc own nL d rty) {index : Nat} (hw : Cond.fieldLink own index "FourStrings$Desk" "keys" "[[I" ∈ TBg) (hdg : decode cc pc = .ok (.getfield index, 3)) (kk : Gj K σ (pc + 3) lv (.ref (kAd K 4) :: rest)) : Gj K σ pc lv (.ref (kAd K (3)) :: rest) := g_get C.1 0 (cC_o1 C) rfl iu_X1 (by decide) rfl rfl hw hdg kk
theorem c_get_D_counts (C : CxC K cc own nL d rty) {index : Nat} (hw : Cond.fieldLink own index "FourStrings$Desk" "counts" "[I" ∈ TBg) (hdg : decode cc pc = .ok (.getfield index, 3)) (kk : Gj K σ (pc + 3) lv (.ref (kAd K 5) :: rest)) : Gj K σ pc lv (.ref (kAd K (3)) :: rest) := g_get C.1 1 (cC_o1 C) rfl iu_X1 (by decide) rfl rfl hw hdg kk
theorem c_get_D_costs (C : CxC K cc own nL d rty) {index : Nat} (hw : Cond.fieldLink own index "FourStrings$Desk" "costs" "[[I" ∈ TBg) (hdg : decode cc pc = .ok (.getfield index, 3)) (kk : Gj K σ (pc + 3) lv (.ref (kAd K 6) :: rest)) : Gj K σ pc lv (.ref (kAd K (3)) :: rest) := g_get C.1 2 (cC_o1 C) rfl iu_X1 (by decide) rfl rfl hw hdg kk
theorem c_put_P_count (C : CxC K cc own nL d rty) {index : Nat} {v : Int32} (h : kdC k = 2) (hw : Cond.fieldLink own index "FourStrings$Part" "count" "I" ∈ TBg) (hdg : decode cc pc = .ok (.putfield index, 3)) (kk : Gj K (ms σ k 0 v) (pc + 3) lv rest) : Gj K σ pc lv (.int v :: .ref (kAd K k) :: rest) := by
  refine g_put C.1 (τ := ms σ k 0 v) (ty := .int) 0 (cC_o2 C h) ?_ rfl iu_X3 tyX3_ok nmX3 (by decide) rfl rfl (by decide +kernel) rfl rfl (Nat.le_of_ble_eq_true rfl) hw hdg kk
  have e := cC_set (σ := σ) C (k := k) (kdC_lt (by omega)) (upd (σ k) 0 v)
  rw [FC2 h] at e
  exact e
theorem c_put_P_fingeringCost (C : CxC K cc own nL d rty) {index : Nat} {v : Int32} (h : kdC k = 2) (hw : Cond.fieldLink own index "FourStrings$Part" "fingeringCost" "I" ∈ TBg) (hdg : decode cc pc = .ok (.putfield index, 3)) (kk : Gj K (ms σ k 1 v) (pc + 3) lv rest) : Gj K σ pc lv (.int v :: .ref (kAd K k) :: rest) := by
  refine g_put C.1 (τ := ms σ k 1 v) (ty := .int) 7 (cC_o2 C h) ?_ rfl iu_X3 tyX3_ok nmX3 (by decide) rfl rfl (by decide +kernel) rfl rfl (Nat.le_of_ble_eq_true rfl) hw hdg kk
  have e := cC_set (σ := σ) C (k := k) (kdC_lt (by omega)) (upd (σ k) 1 v)
  rw [FC2 h] at e
  exact e
theorem c_put_P_isFingered (C : CxC K cc own nL d rty) {index : Nat} {v : Int32} (h : kdC k = 2) (hn : narrow .boolean (.int v) = .int v) (hfit : fits .boolean (.int v) = true) (hw : Cond.fieldLink own index "FourStrings$Part" "isFingered" "Z" ∈ TBg) (hdg : decode cc pc = .ok (.putfield index, 3)) (kk : Gj K (ms σ k 2 v) (pc + 3) lv rest) : Gj K σ pc lv (.int v :: .ref (kAd K k) :: rest) := by
  refine g_put C.1 (τ := ms σ k 2 v) (ty := .boolean) 8 (cC_o2 C h) ?_ rfl iu_X3 tyX3_ok nmX3 (by decide) rfl rfl (by decide +kernel) hn hfit (Nat.le_of_ble_eq_true rfl) hw hdg kk
  have e := cC_set (σ := σ) C (k := k) (kdC_lt (by omega)) (upd (σ k) 2 v)
  rw [FC2 h] at e
  exact e
theorem c_put_B_cost (C : CxC K cc own nL d rty) {index : Nat} {v : Int32} (h : kdC k = 0) (hw : Cond.fieldLink own index "FourStrings$Bowing" "cost" "I" ∈ TBg) (hdg : decode cc pc = .ok (.putfield index, 3)) (kk : Gj K (ms σ k 0 v) (pc + 3) lv rest) : Gj K σ pc lv (.int v :: .ref (kAd K k) :: rest) := by
  refine g_put C.1 (τ := ms σ k 0 v) (ty := .int) 0 (cC_o0 C h) ?_ rfl iu_X0 tyX0_ok nmX0 (by decide) rfl rfl (by decide +kernel) rfl rfl (Nat.le_of_ble_eq_true rfl) hw hdg kk
  have e := cC_set (σ := σ) C (k := k) (kdC_lt (by omega)) (upd (σ k) 0 v)
  rw [FC0 h] at e
  exact e
theorem c_steps (C : CxC K cc own nL d rty) {index : Nat} {i : Int32} {kk9 : Nat → Prop} (hw : Cond.fieldLink own index "FourStrings$Way" "STEPS" "[I" ∈ TBg) (hdg : decode cc pc = .ok (.getstatic index, 3)) (kk : ∀ t : Nat, va_T .int t 10 stepsV (kA K) (ks K) (ks K).heap → Gj K σ (pc + 3) lv (.ref t :: rest)) : Gj K σ pc lv rest := fun H locs ls hP hS hl => by
  have h := cx_S C.1
  rw [C.2.2.2] at h
  obtain ⟨⟨t, h1, h2⟩, -⟩ := h
  exact va_gets (cx_x C.1) (cx_b C.1) h1 hS (cx_own C.1) (cx_ts C.1 _ hw) (fun _ h9 => h9) hdg (kk t h2 H locs ls hP hS hl)
def stepsI (i : Int32) : Int32 := match i.toNatClampNeg with | 0 => 0 | 1 => 0 | 2 => 2 | 3 => 4 | 4 => 5 | 5 => 0 | 6 => 1 | 7 => 3 | 8 => 5 | _ => 6
theorem c_stald (C : CxC K cc own nL d rty) {i : Int32} {t : Nat} (hT : va_T .int t 10 stepsV (kA K) (ks K) (ks K).heap) (h : inb i 10 = true) (hdg : decode cc pc = .ok (.iaload, 1)) (kk : Gj K σ (pc + 1) lv (.int (stepsI i) :: rest)) : Gj K σ pc lv (.int i :: .ref t :: rest) := fun H locs ls hP hS hl => va_ti (cx_x C.1) (cx_b C.1) hT hS (inb_in h) (by rfl) hdg (kk H locs ls hP hS hl)
theorem cC_eq (C : CxC K cc own nL d rty) {P : Launch → va_G → List (ClassId × FieldType) → (Mm → va_W) → ((Nat → Prop) → State → Heap → Prop) → Prop} (h : P (kl K) (kD K) (tysC (kcI K) (kcP K) (kcII K)) (wdC (kAd K) (kcI K) (kcP K) (kcII K)) StC) : P (kl K) (kD K) (ktys K) (kwf K) (kSt K) := by
  rw [C.2.1, C.2.2.1, C.2.2.2]
  exact h
theorem cC_of {l : Launch} {D : va_G} {Ad : Nat → Nat} {cI cP cII : ClassId} (C : Cx K cc own nL d rty) (G : GiveK K l D (tysC cI cP cII) (wdC Ad cI cP cII) StC Ad cI cP cII) : CxC K cc own nL d rty := by
  obtain ⟨rfl, rfl, h3, h4, h5, rfl, rfl, rfl, rfl⟩ := G
  exact ⟨C, h4, h3, h5⟩
end LC
