/-! the reference -/
def lnM (k : Nat) : Nat := match k with | 1 => 4 | 2 => 3 | 3 => 36 | 4 => 36 | 5 => 36 | 6 => 36 | 7 => 12 | 8 => 6000 | 9 => 6000 | 10 => 6000 | 11 => 18 | 12 => 18 | 13 => 2 | 14 => 6000 | 15 => 12 | 16 => 24 | 17 => 36 | _ => 0
def FM (Ad : Nat → Nat) (cI : ClassId) (k : Nat) (r : Nat → Int32) : va_E := match k with
  | 0 => .inr (4, [.ref (Ad 1), .ref (Ad 2), .ref (Ad 3), .ref (Ad 4), .ref (Ad 5), .ref (Ad 6), .ref (Ad 7), .ref (Ad 8), .ref (Ad 9), .ref (Ad 10), .ref (Ad 11), .ref (Ad 12), .ref (Ad 13), .ref (Ad 14), .ref (Ad 15), .int (r 0), .ref (Ad 16), .ref (Ad 17)])
  | j + 1 => .inl (cI, lnM (j + 1), .inl r)
def wdM (Ad : Nat → Nat) (cI : ClassId) : Mm → va_W := wdG (FM Ad cI) Ad 18
def tysM (cI : ClassId) : List (ClassId × FieldType) := [(cI, .int)]
def StM (_ : Nat → Prop) (_ : State) (_ : Heap) : Prop := True
theorem stOK_M : StOK StM := ⟨fun _ _ _ _ _ _ => trivial, fun _ _ _ _ _ _ => trivial, fun _ _ _ _ _ _ => trivial, fun _ _ _ _ _ _ => trivial⟩
def CxM (K : Kx) (cc : ByteArray) (own : String) (nL d : Nat) (rty : Option FieldType) : Prop := Cx K cc own nL d rty ∧ kwf K = wdM (kAd K) (kcI K) ∧ ktys K = tysM (kcI K) ∧ kSt K = StM
section LM
variable {K : Kx} {cc : ByteArray} {own : String} {nL d : Nat} {rty : Option FieldType} {σ : Mm} {pc : Nat} {lv : List (Nat × Value)} {st rest : List Value} {k : Nat}
theorem cM_at (C : CxM K cc own nL d rty) (h : k < 18) : (kwf K σ)[k]? = some (kAd K k, FM (kAd K) (kcI K) k (σ k)) := by
  rw [C.2.1]
  exact wdG_get h
theorem cM_set (C : CxM K cc own nL d rty) (h : k < 18) (r : Nat → Int32) : (kwf K σ).set k (kAd K k, FM (kAd K) (kcI K) k r) = kwf K (va_up σ k r) := by
  rw [C.2.1]
  exact wdG_set h
theorem m_iald (C : CxM K cc own nL d rty) {n : Nat} {i : Int32} (j : Nat) (hj : j + 1 < 18) (hn : lnM (j + 1) = n) (h : inb i n = true) (hdg : decode cc pc = .ok (.iaload, 1)) (kk : Gj K σ (pc + 1) lv (.int (σ (j + 1) i.toNatClampNeg) :: rest)) : Gj K σ pc lv (.int i :: .ref (kAd K (j + 1)) :: rest) :=
  g_iald C.1 (n := n) (f := σ (j + 1)) (by rw [cM_at C hj, ← hn]; rfl) h hdg kk
theorem m_iast (C : CxM K cc own nL d rty) {n : Nat} {i x : Int32} (j : Nat) (hj : j + 1 < 18) (hn : lnM (j + 1) = n) (h : inb i n = true) (hdg : decode cc pc = .ok (.iastore, 1)) (kk : Gj K (ms σ (j + 1) i.toNatClampNeg x) (pc + 1) lv rest) : Gj K σ pc lv (.int x :: .int i :: .ref (kAd K (j + 1)) :: rest) := by
  refine g_iast C.1 (n := n) (f := σ (j + 1)) (τ := ms σ (j + 1) i.toNatClampNeg x) (by rw [cM_at C hj, ← hn]; rfl) ?_ h hdg kk
  rw [← hn]
  exact cM_set (σ := σ) C hj (upd (σ (j + 1)) i.toNatClampNeg x)
theorem cM_o (C : CxM K cc own nL d rty) : (kwf K σ)[0]? = some (kAd K 0, .inr (4, [.ref (kAd K 1), .ref (kAd K 2), .ref (kAd K 3), .ref (kAd K 4), .ref (kAd K 5), .ref (kAd K 6), .ref (kAd K 7), .ref (kAd K 8), .ref (kAd K 9), .ref (kAd K 10), .ref (kAd K 11), .ref (kAd K 12), .ref (kAd K 13), .ref (kAd K 14), .ref (kAd K 15), .int (σ 0 0), .ref (kAd K 16), .ref (kAd K 17)])) := by
  rw [cM_at C (by decide)]
  rfl
theorem m_get_open (C : CxM K cc own nL d rty) {index : Nat} (hw : Cond.fieldLink own index "FourStringsModel" "open" "[I" ∈ TBg) (hdg : decode cc pc = .ok (.getfield index, 3)) (kk : Gj K σ (pc + 3) lv (.ref (kAd K 1) :: rest)) : Gj K σ pc lv (.ref (kAd K 0) :: rest) := g_get C.1 0 (cM_o C) rfl iu_X6 (by decide) rfl rfl hw hdg kk
theorem m_get_notes (C : CxM K cc own nL d rty) {index : Nat} (hw : Cond.fieldLink own index "FourStringsModel" "notes" "[I" ∈ TBg) (hdg : decode cc pc = .ok (.getfield index, 3)) (kk : Gj K σ (pc + 3) lv (.ref (kAd K 2) :: rest)) : Gj K σ pc lv (.ref (kAd K 0) :: rest) := g_get C.1 1 (cM_o C) rfl iu_X6 (by decide) rfl rfl hw hdg kk
theorem m_get_pitch (C : CxM K cc own nL d rty) {index : Nat} (hw : Cond.fieldLink own index "FourStringsModel" "pitch" "[I" ∈ TBg) (hdg : decode cc pc = .ok (.getfield index, 3)) (kk : Gj K σ (pc + 3) lv (.ref (kAd K 3) :: rest)) : Gj K σ pc lv (.ref (kAd K 0) :: rest) := g_get C.1 2 (cM_o C) rfl iu_X6 (by decide) rfl rfl hw hdg kk
theorem m_get_second (C : CxM K cc own nL d rty) {index : Nat} (hw : Cond.fieldLink own index "FourStringsModel" "second" "[I" ∈ TBg) (hdg : decode cc pc = .ok (.getfield index, 3)) (kk : Gj K σ (pc + 3) lv (.ref (kAd K 4) :: rest)) : Gj K σ pc lv (.ref (kAd K 0) :: rest) := g_get C.1 3 (cM_o C) rfl iu_X6 (by decide) rfl rfl hw hdg kk
theorem m_get_length (C : CxM K cc own nL d rty) {index : Nat} (hw : Cond.fieldLink own index "FourStringsModel" "length" "[I" ∈ TBg) (hdg : decode cc pc = .ok (.getfield index, 3)) (kk : Gj K σ (pc + 3) lv (.ref (kAd K 5) :: rest)) : Gj K σ pc lv (.ref (kAd K 0) :: rest) := g_get C.1 4 (cM_o C) rfl iu_X6 (by decide) rfl rfl hw hdg kk
theorem m_get_marks (C : CxM K cc own nL d rty) {index : Nat} (hw : Cond.fieldLink own index "FourStringsModel" "marks" "[I" ∈ TBg) (hdg : decode cc pc = .ok (.getfield index, 3)) (kk : Gj K σ (pc + 3) lv (.ref (kAd K 6) :: rest)) : Gj K σ pc lv (.ref (kAd K 0) :: rest) := g_get C.1 5 (cM_o C) rfl iu_X6 (by decide) rfl rfl hw hdg kk
theorem m_get_holds (C : CxM K cc own nL d rty) {index : Nat} (hw : Cond.fieldLink own index "FourStringsModel" "holds" "[I" ∈ TBg) (hdg : decode cc pc = .ok (.getfield index, 3)) (kk : Gj K σ (pc + 3) lv (.ref (kAd K 7) :: rest)) : Gj K σ pc lv (.ref (kAd K 0) :: rest) := g_get C.1 6 (cM_o C) rfl iu_X6 (by decide) rfl rfl hw hdg kk
theorem m_get_name (C : CxM K cc own nL d rty) {index : Nat} (hw : Cond.fieldLink own index "FourStringsModel" "name" "[I" ∈ TBg) (hdg : decode cc pc = .ok (.getfield index, 3)) (kk : Gj K σ (pc + 3) lv (.ref (kAd K 8) :: rest)) : Gj K σ pc lv (.ref (kAd K 0) :: rest) := g_get C.1 7 (cM_o C) rfl iu_X6 (by decide) rfl rfl hw hdg kk
theorem m_get_greater (C : CxM K cc own nL d rty) {index : Nat} (hw : Cond.fieldLink own index "FourStringsModel" "greater" "[I" ∈ TBg) (hdg : decode cc pc = .ok (.getfield index, 3)) (kk : Gj K σ (pc + 3) lv (.ref (kAd K 9) :: rest)) : Gj K σ pc lv (.ref (kAd K 0) :: rest) := g_get C.1 8 (cM_o C) rfl iu_X6 (by decide) rfl rfl hw hdg kk
theorem m_get_extra (C : CxM K cc own nL d rty) {index : Nat} (hw : Cond.fieldLink own index "FourStringsModel" "extra" "[I" ∈ TBg) (hdg : decode cc pc = .ok (.getfield index, 3)) (kk : Gj K σ (pc + 3) lv (.ref (kAd K 10) :: rest)) : Gj K σ pc lv (.ref (kAd K 0) :: rest) := g_get C.1 9 (cM_o C) rfl iu_X6 (by decide) rfl rfl hw hdg kk
theorem m_get_oneHand (C : CxM K cc own nL d rty) {index : Nat} (hw : Cond.fieldLink own index "FourStringsModel" "oneHand" "[I" ∈ TBg) (hdg : decode cc pc = .ok (.getfield index, 3)) (kk : Gj K σ (pc + 3) lv (.ref (kAd K 11) :: rest)) : Gj K σ pc lv (.ref (kAd K 0) :: rest) := g_get C.1 10 (cM_o C) rfl iu_X6 (by decide) rfl rfl hw hdg kk
theorem m_get_oneLast (C : CxM K cc own nL d rty) {index : Nat} (hw : Cond.fieldLink own index "FourStringsModel" "oneLast" "[I" ∈ TBg) (hdg : decode cc pc = .ok (.getfield index, 3)) (kk : Gj K σ (pc + 3) lv (.ref (kAd K 12) :: rest)) : Gj K σ pc lv (.ref (kAd K 0) :: rest) := g_get C.1 11 (cM_o C) rfl iu_X6 (by decide) rfl rfl hw hdg kk
theorem m_get_ones (C : CxM K cc own nL d rty) {index : Nat} (hw : Cond.fieldLink own index "FourStringsModel" "ones" "[I" ∈ TBg) (hdg : decode cc pc = .ok (.getfield index, 3)) (kk : Gj K σ (pc + 3) lv (.ref (kAd K 13) :: rest)) : Gj K σ pc lv (.ref (kAd K 0) :: rest) := g_get C.1 12 (cM_o C) rfl iu_X6 (by decide) rfl rfl hw hdg kk
theorem m_get_hardest (C : CxM K cc own nL d rty) {index : Nat} (hw : Cond.fieldLink own index "FourStringsModel" "hardest" "[I" ∈ TBg) (hdg : decode cc pc = .ok (.getfield index, 3)) (kk : Gj K σ (pc + 3) lv (.ref (kAd K 14) :: rest)) : Gj K σ pc lv (.ref (kAd K 0) :: rest) := g_get C.1 13 (cM_o C) rfl iu_X6 (by decide) rfl rfl hw hdg kk
theorem m_get_chosen (C : CxM K cc own nL d rty) {index : Nat} (hw : Cond.fieldLink own index "FourStringsModel" "chosen" "[I" ∈ TBg) (hdg : decode cc pc = .ok (.getfield index, 3)) (kk : Gj K σ (pc + 3) lv (.ref (kAd K 15) :: rest)) : Gj K σ pc lv (.ref (kAd K 0) :: rest) := g_get C.1 14 (cM_o C) rfl iu_X6 (by decide) rfl rfl hw hdg kk
theorem m_get_least (C : CxM K cc own nL d rty) {index : Nat} (hw : Cond.fieldLink own index "FourStringsModel" "least" "I" ∈ TBg) (hdg : decode cc pc = .ok (.getfield index, 3)) (kk : Gj K σ (pc + 3) lv (.int (σ 0 0) :: rest)) : Gj K σ pc lv (.ref (kAd K 0) :: rest) := g_get C.1 15 (cM_o C) rfl iu_X6 (by decide) rfl rfl hw hdg kk
theorem m_get_costs (C : CxM K cc own nL d rty) {index : Nat} (hw : Cond.fieldLink own index "FourStringsModel" "costs" "[I" ∈ TBg) (hdg : decode cc pc = .ok (.getfield index, 3)) (kk : Gj K σ (pc + 3) lv (.ref (kAd K 16) :: rest)) : Gj K σ pc lv (.ref (kAd K 0) :: rest) := g_get C.1 16 (cM_o C) rfl iu_X6 (by decide) rfl rfl hw hdg kk
theorem m_get_ways (C : CxM K cc own nL d rty) {index : Nat} (hw : Cond.fieldLink own index "FourStringsModel" "ways" "[I" ∈ TBg) (hdg : decode cc pc = .ok (.getfield index, 3)) (kk : Gj K σ (pc + 3) lv (.ref (kAd K 17) :: rest)) : Gj K σ pc lv (.ref (kAd K 0) :: rest) := g_get C.1 17 (cM_o C) rfl iu_X6 (by decide) rfl rfl hw hdg kk
theorem m_put_least (C : CxM K cc own nL d rty) {index : Nat} {v : Int32} (hw : Cond.fieldLink own index "FourStringsModel" "least" "I" ∈ TBg) (hdg : decode cc pc = .ok (.putfield index, 3)) (kk : Gj K (ms σ 0 0 v) (pc + 3) lv rest) : Gj K σ pc lv (.int v :: .ref (kAd K 0) :: rest) := by
  refine g_put C.1 (τ := ms σ 0 0 v) (ty := .int) 15 (cM_o C) ?_ rfl iu_X6 tyX6_ok nmX6 (by decide) rfl rfl (by decide +kernel) rfl rfl (Nat.le_of_ble_eq_true rfl) hw hdg kk
  exact cM_set (σ := σ) C (k := 0) (by decide) (upd (σ 0) 0 v)
theorem cM_eq (C : CxM K cc own nL d rty) {P : Launch → va_G → List (ClassId × FieldType) → (Mm → va_W) → ((Nat → Prop) → State → Heap → Prop) → Prop} (h : P (kl K) (kD K) (tysM (kcI K)) (wdM (kAd K) (kcI K)) StM) : P (kl K) (kD K) (ktys K) (kwf K) (kSt K) := by
  rw [C.2.1, C.2.2.1, C.2.2.2]
  exact h
theorem cM_of {l : Launch} {D : va_G} {Ad : Nat → Nat} {cI cP cII : ClassId} (C : Cx K cc own nL d rty) (G : GiveK K l D (tysM cI) (wdM Ad cI) StM Ad cI cP cII) : CxM K cc own nL d rty := by
  obtain ⟨rfl, rfl, h3, h4, h5, rfl, rfl, rfl, rfl⟩ := G
  exact ⟨C, h4, h3, h5⟩
end LM
