/-! ===== the frame: memory as rows of ints, checked programs, the judgement over both ===== -/
abbrev Mm : Type := Nat → Nat → Int32
/-- one place of one row -/
def ms (σ : Mm) (k i : Nat) (v : Int32) : Mm := va_up σ k (upd (σ k) i v)
def inb (i : Int32) (n : Nat) : Bool := !(decide (i < 0)) && decide (i.toNatClampNeg < n)
theorem inb_in {i : Int32} {n : Nat} (h : inb i n = true) : vp_in i n := by
  unfold inb at h
  unfold vp_in
  simp only [Bool.and_eq_true, Bool.not_eq_true', decide_eq_true_eq, decide_eq_false_iff_not] at h
  intro q
  rcases q with q | q
  · exact h.1 q
  · omega
def Sat {α : Type} (e : Option α) (P : α → Prop) : Prop := ∃ a, e = some a ∧ P a
theorem sat_some {α : Type} {a : α} {P : α → Prop} (h : Sat (some a) P) : P a := by
  obtain ⟨b, h1, h2⟩ := h
  cases h1
  exact h2
theorem sat_t {α : Type} {c : Prop} [Decidable c] {A B : Option α} {P : α → Prop} (h : Sat (if c then A else B) P) (hc : c) : Sat A P := by
  rw [if_pos hc] at h
  exact h
theorem sat_f {α : Type} {c : Prop} [Decidable c] {A B : Option α} {P : α → Prop} (h : Sat (if c then A else B) P) (hc : ¬ c) : Sat B P := by
  rw [if_neg hc] at h
  exact h
def chk {α : Type} (b : Bool) (e : Option α) : Option α := if b = true then e else none
theorem sat_chk {α : Type} {b : Bool} {e : Option α} {P : α → Prop} (h : Sat (chk b e) P) : b = true ∧ Sat e P := by
  unfold chk at h
  by_cases hb : b = true
  · rw [if_pos hb] at h
    exact ⟨hb, h⟩
  · rw [if_neg hb] at h
    obtain ⟨a, h1, h2⟩ := h
    cases h1
def onul {α : Type} (o : Option Nat) (a : Option α) (f : Nat → Option α) : Option α := match o with
  | none => a
  | some k => f k
def fu : Nat := 10000
theorem sum_l {α β : Type} {P : α → Prop} {Q : β → Prop} {a : α} (h : Sum.elim P Q (.inl a)) : P a := h
theorem sum_r {α β : Type} {P : α → Prop} {Q : β → Prop} {a : β} (h : Sum.elim P Q (.inr a)) : Q a := h
def bn0 {β : Type} (e : Option (Mm)) (f : Mm → Option β) : Option β := match e with
  | none => none
  | some a => f a
theorem sat_ca0 {β : Type} {e : Option (Mm)} {f : Mm → Option β} {P : β → Prop} (h : Sat (bn0 e f) P) : ∃ (σ : Mm), e = some σ ∧ Sat (f σ) P := by
  cases e with
  | none =>
    obtain ⟨b, h1, h2⟩ := h
    cases h1
  | some a => exact ⟨a, rfl, h⟩
theorem sat_cu0 {β : Type} {e : Option (Mm)} {f : Mm → Option β} {P : β → Prop} {G : Mm → Prop} (h : Sat (bn0 e f) P) (hj : ∀ (σ : Mm), Sat (f σ) P → G σ) : Sat e (fun a => G a) := by
  cases e with
  | none =>
    obtain ⟨b, h1, h2⟩ := h
    cases h1
  | some a => exact ⟨a, rfl, hj _  h⟩
def lq0 {β : Type} (st : Mm → Option ((Mm) ⊕ β)) : Nat → Mm → Option β
  | 0, _ => none
  | n + 1, σ => match st σ with
    | none => none
    | some (.inl a) => lq0 st n a
    | some (.inr r) => some r
theorem lqr0 {β : Type} {st : Mm → Option ((Mm) ⊕ β)} {Gh : Mm → Prop} {Gx : β → Prop} (hb : ∀ (σ : Mm), Sat (st σ) (Sum.elim (fun a => Gh a) Gx) → Gh σ) : ∀ (n : Nat) (σ : Mm), Sat (lq0 st n σ) Gx → Gh σ := by
  intro n
  induction n with
  | zero =>
    intro σ h
    obtain ⟨b, h1, h2⟩ := h
    cases h1
  | succ n ih =>
    intro σ h
    refine hb σ ?_
    obtain ⟨b, h1, h2⟩ := h
    simp only [lq0] at h1
    cases hs : st σ with
    | none =>
      rw [hs] at h1
      cases h1
    | some v =>
      rw [hs] at h1
      cases v with
      | inl a => exact ⟨_, rfl, ih a ⟨b, h1, h2⟩⟩
      | inr r =>
        cases h1
        exact ⟨_, rfl, h2⟩
theorem lqm0 {β : Type} {st : Mm → Option ((Mm) ⊕ β)} {r : β} : ∀ (n m : Nat) (σ : Mm), n ≤ m → lq0 st n σ = some r → lq0 st m σ = some r := by
  intro n
  induction n with
  | zero =>
    intro m σ h h1
    cases h1
  | succ n ih =>
    intro m σ h h1
    obtain ⟨m, rfl⟩ : ∃ j, m = j + 1 := ⟨m - 1, by omega⟩
    simp only [lq0] at h1 ⊢
    cases hs : st σ with
    | none =>
      rw [hs] at h1
      cases h1
    | some v =>
      rw [hs] at h1
      cases v with
      | inl a => exact ih m a (by omega) h1
      | inr r => exact h1
def bn1 {A1 : Type} {β : Type} (e : Option (Mm × A1)) (f : Mm → A1 → Option β) : Option β := match e with
  | none => none
  | some a => f a.1 a.2
theorem sat_ca1 {A1 : Type} {β : Type} {e : Option (Mm × A1)} {f : Mm → A1 → Option β} {P : β → Prop} (h : Sat (bn1 e f) P) : ∃ (σ : Mm) (x1 : A1), e = some (σ, x1) ∧ Sat (f σ x1) P := by
  cases e with
  | none =>
    obtain ⟨b, h1, h2⟩ := h
    cases h1
  | some a => exact ⟨a.1, a.2, rfl, h⟩
theorem sat_cu1 {A1 : Type} {β : Type} {e : Option (Mm × A1)} {f : Mm → A1 → Option β} {P : β → Prop} {G : Mm → A1 → Prop} (h : Sat (bn1 e f) P) (hj : ∀ (σ : Mm) (x1 : A1), Sat (f σ x1) P → G σ x1) : Sat e (fun a => G a.1 a.2) := by
  cases e with
  | none =>
    obtain ⟨b, h1, h2⟩ := h
    cases h1
  | some a => exact ⟨a, rfl, hj _ _ h⟩
def lq1 {A1 : Type} {β : Type} (st : Mm → A1 → Option ((Mm × A1) ⊕ β)) : Nat → Mm → A1 → Option β
  | 0, _, _ => none
  | n + 1, σ, x1 => match st σ x1 with
    | none => none
    | some (.inl a) => lq1 st n a.1 a.2
    | some (.inr r) => some r
theorem lqr1 {A1 : Type} {β : Type} {st : Mm → A1 → Option ((Mm × A1) ⊕ β)} {Gh : Mm → A1 → Prop} {Gx : β → Prop} (hb : ∀ (σ : Mm) (x1 : A1), Sat (st σ x1) (Sum.elim (fun a => Gh a.1 a.2) Gx) → Gh σ x1) : ∀ (n : Nat) (σ : Mm) (x1 : A1), Sat (lq1 st n σ x1) Gx → Gh σ x1 := by
  intro n
  induction n with
  | zero =>
    intro σ x1 h
    obtain ⟨b, h1, h2⟩ := h
    cases h1
  | succ n ih =>
    intro σ x1 h
    refine hb σ x1 ?_
    obtain ⟨b, h1, h2⟩ := h
    simp only [lq1] at h1
    cases hs : st σ x1 with
    | none =>
      rw [hs] at h1
      cases h1
    | some v =>
      rw [hs] at h1
      cases v with
      | inl a => exact ⟨_, rfl, ih a.1 a.2 ⟨b, h1, h2⟩⟩
      | inr r =>
        cases h1
        exact ⟨_, rfl, h2⟩
theorem lqm1 {A1 : Type} {β : Type} {st : Mm → A1 → Option ((Mm × A1) ⊕ β)} {r : β} : ∀ (n m : Nat) (σ : Mm) (x1 : A1), n ≤ m → lq1 st n σ x1 = some r → lq1 st m σ x1 = some r := by
  intro n
  induction n with
  | zero =>
    intro m σ x1 h h1
    cases h1
  | succ n ih =>
    intro m σ x1 h h1
    obtain ⟨m, rfl⟩ : ∃ j, m = j + 1 := ⟨m - 1, by omega⟩
    simp only [lq1] at h1 ⊢
    cases hs : st σ x1 with
    | none =>
      rw [hs] at h1
      cases h1
    | some v =>
      rw [hs] at h1
      cases v with
      | inl a => exact ih m a.1 a.2 (by omega) h1
      | inr r => exact h1
def bn2 {A1 A2 : Type} {β : Type} (e : Option (Mm × A1 × A2)) (f : Mm → A1 → A2 → Option β) : Option β := match e with
  | none => none
  | some a => f a.1 a.2.1 a.2.2
theorem sat_ca2 {A1 A2 : Type} {β : Type} {e : Option (Mm × A1 × A2)} {f : Mm → A1 → A2 → Option β} {P : β → Prop} (h : Sat (bn2 e f) P) : ∃ (σ : Mm) (x1 : A1) (x2 : A2), e = some (σ, x1, x2) ∧ Sat (f σ x1 x2) P := by
  cases e with
  | none =>
    obtain ⟨b, h1, h2⟩ := h
    cases h1
  | some a => exact ⟨a.1, a.2.1, a.2.2, rfl, h⟩
theorem sat_cu2 {A1 A2 : Type} {β : Type} {e : Option (Mm × A1 × A2)} {f : Mm → A1 → A2 → Option β} {P : β → Prop} {G : Mm → A1 → A2 → Prop} (h : Sat (bn2 e f) P) (hj : ∀ (σ : Mm) (x1 : A1) (x2 : A2), Sat (f σ x1 x2) P → G σ x1 x2) : Sat e (fun a => G a.1 a.2.1 a.2.2) := by
  cases e with
  | none =>
    obtain ⟨b, h1, h2⟩ := h
    cases h1
  | some a => exact ⟨a, rfl, hj _ _ _ h⟩
def lq2 {A1 A2 : Type} {β : Type} (st : Mm → A1 → A2 → Option ((Mm × A1 × A2) ⊕ β)) : Nat → Mm → A1 → A2 → Option β
  | 0, _, _, _ => none
  | n + 1, σ, x1, x2 => match st σ x1 x2 with
    | none => none
    | some (.inl a) => lq2 st n a.1 a.2.1 a.2.2
    | some (.inr r) => some r
theorem lqr2 {A1 A2 : Type} {β : Type} {st : Mm → A1 → A2 → Option ((Mm × A1 × A2) ⊕ β)} {Gh : Mm → A1 → A2 → Prop} {Gx : β → Prop} (hb : ∀ (σ : Mm) (x1 : A1) (x2 : A2), Sat (st σ x1 x2) (Sum.elim (fun a => Gh a.1 a.2.1 a.2.2) Gx) → Gh σ x1 x2) : ∀ (n : Nat) (σ : Mm) (x1 : A1) (x2 : A2), Sat (lq2 st n σ x1 x2) Gx → Gh σ x1 x2 := by
  intro n
  induction n with
  | zero =>
    intro σ x1 x2 h
    obtain ⟨b, h1, h2⟩ := h
    cases h1
  | succ n ih =>
    intro σ x1 x2 h
    refine hb σ x1 x2 ?_
    obtain ⟨b, h1, h2⟩ := h
    simp only [lq2] at h1
    cases hs : st σ x1 x2 with
    | none =>
      rw [hs] at h1
      cases h1
    | some v =>
      rw [hs] at h1
      cases v with
      | inl a => exact ⟨_, rfl, ih a.1 a.2.1 a.2.2 ⟨b, h1, h2⟩⟩
      | inr r =>
        cases h1
        exact ⟨_, rfl, h2⟩
theorem lqm2 {A1 A2 : Type} {β : Type} {st : Mm → A1 → A2 → Option ((Mm × A1 × A2) ⊕ β)} {r : β} : ∀ (n m : Nat) (σ : Mm) (x1 : A1) (x2 : A2), n ≤ m → lq2 st n σ x1 x2 = some r → lq2 st m σ x1 x2 = some r := by
  intro n
  induction n with
  | zero =>
    intro m σ x1 x2 h h1
    cases h1
  | succ n ih =>
    intro m σ x1 x2 h h1
    obtain ⟨m, rfl⟩ : ∃ j, m = j + 1 := ⟨m - 1, by omega⟩
    simp only [lq2] at h1 ⊢
    cases hs : st σ x1 x2 with
    | none =>
      rw [hs] at h1
      cases h1
    | some v =>
      rw [hs] at h1
      cases v with
      | inl a => exact ih m a.1 a.2.1 a.2.2 (by omega) h1
      | inr r => exact h1
def bn3 {A1 A2 A3 : Type} {β : Type} (e : Option (Mm × A1 × A2 × A3)) (f : Mm → A1 → A2 → A3 → Option β) : Option β := match e with
  | none => none
  | some a => f a.1 a.2.1 a.2.2.1 a.2.2.2
theorem sat_ca3 {A1 A2 A3 : Type} {β : Type} {e : Option (Mm × A1 × A2 × A3)} {f : Mm → A1 → A2 → A3 → Option β} {P : β → Prop} (h : Sat (bn3 e f) P) : ∃ (σ : Mm) (x1 : A1) (x2 : A2) (x3 : A3), e = some (σ, x1, x2, x3) ∧ Sat (f σ x1 x2 x3) P := by
  cases e with
  | none =>
    obtain ⟨b, h1, h2⟩ := h
    cases h1
  | some a => exact ⟨a.1, a.2.1, a.2.2.1, a.2.2.2, rfl, h⟩
theorem sat_cu3 {A1 A2 A3 : Type} {β : Type} {e : Option (Mm × A1 × A2 × A3)} {f : Mm → A1 → A2 → A3 → Option β} {P : β → Prop} {G : Mm → A1 → A2 → A3 → Prop} (h : Sat (bn3 e f) P) (hj : ∀ (σ : Mm) (x1 : A1) (x2 : A2) (x3 : A3), Sat (f σ x1 x2 x3) P → G σ x1 x2 x3) : Sat e (fun a => G a.1 a.2.1 a.2.2.1 a.2.2.2) := by
  cases e with
  | none =>
    obtain ⟨b, h1, h2⟩ := h
    cases h1
  | some a => exact ⟨a, rfl, hj _ _ _ _ h⟩
def lq3 {A1 A2 A3 : Type} {β : Type} (st : Mm → A1 → A2 → A3 → Option ((Mm × A1 × A2 × A3) ⊕ β)) : Nat → Mm → A1 → A2 → A3 → Option β
  | 0, _, _, _, _ => none
  | n + 1, σ, x1, x2, x3 => match st σ x1 x2 x3 with
    | none => none
    | some (.inl a) => lq3 st n a.1 a.2.1 a.2.2.1 a.2.2.2
    | some (.inr r) => some r
theorem lqr3 {A1 A2 A3 : Type} {β : Type} {st : Mm → A1 → A2 → A3 → Option ((Mm × A1 × A2 × A3) ⊕ β)} {Gh : Mm → A1 → A2 → A3 → Prop} {Gx : β → Prop} (hb : ∀ (σ : Mm) (x1 : A1) (x2 : A2) (x3 : A3), Sat (st σ x1 x2 x3) (Sum.elim (fun a => Gh a.1 a.2.1 a.2.2.1 a.2.2.2) Gx) → Gh σ x1 x2 x3) : ∀ (n : Nat) (σ : Mm) (x1 : A1) (x2 : A2) (x3 : A3), Sat (lq3 st n σ x1 x2 x3) Gx → Gh σ x1 x2 x3 := by
  intro n
  induction n with
  | zero =>
    intro σ x1 x2 x3 h
    obtain ⟨b, h1, h2⟩ := h
    cases h1
  | succ n ih =>
    intro σ x1 x2 x3 h
    refine hb σ x1 x2 x3 ?_
    obtain ⟨b, h1, h2⟩ := h
    simp only [lq3] at h1
    cases hs : st σ x1 x2 x3 with
    | none =>
      rw [hs] at h1
      cases h1
    | some v =>
      rw [hs] at h1
      cases v with
      | inl a => exact ⟨_, rfl, ih a.1 a.2.1 a.2.2.1 a.2.2.2 ⟨b, h1, h2⟩⟩
      | inr r =>
        cases h1
        exact ⟨_, rfl, h2⟩
theorem lqm3 {A1 A2 A3 : Type} {β : Type} {st : Mm → A1 → A2 → A3 → Option ((Mm × A1 × A2 × A3) ⊕ β)} {r : β} : ∀ (n m : Nat) (σ : Mm) (x1 : A1) (x2 : A2) (x3 : A3), n ≤ m → lq3 st n σ x1 x2 x3 = some r → lq3 st m σ x1 x2 x3 = some r := by
  intro n
  induction n with
  | zero =>
    intro m σ x1 x2 x3 h h1
    cases h1
  | succ n ih =>
    intro m σ x1 x2 x3 h h1
    obtain ⟨m, rfl⟩ : ∃ j, m = j + 1 := ⟨m - 1, by omega⟩
    simp only [lq3] at h1 ⊢
    cases hs : st σ x1 x2 x3 with
    | none =>
      rw [hs] at h1
      cases h1
    | some v =>
      rw [hs] at h1
      cases v with
      | inl a => exact ih m a.1 a.2.1 a.2.2.1 a.2.2.2 (by omega) h1
      | inr r => exact h1
def bn4 {A1 A2 A3 A4 : Type} {β : Type} (e : Option (Mm × A1 × A2 × A3 × A4)) (f : Mm → A1 → A2 → A3 → A4 → Option β) : Option β := match e with
  | none => none
  | some a => f a.1 a.2.1 a.2.2.1 a.2.2.2.1 a.2.2.2.2
theorem sat_ca4 {A1 A2 A3 A4 : Type} {β : Type} {e : Option (Mm × A1 × A2 × A3 × A4)} {f : Mm → A1 → A2 → A3 → A4 → Option β} {P : β → Prop} (h : Sat (bn4 e f) P) : ∃ (σ : Mm) (x1 : A1) (x2 : A2) (x3 : A3) (x4 : A4), e = some (σ, x1, x2, x3, x4) ∧ Sat (f σ x1 x2 x3 x4) P := by
  cases e with
  | none =>
    obtain ⟨b, h1, h2⟩ := h
    cases h1
  | some a => exact ⟨a.1, a.2.1, a.2.2.1, a.2.2.2.1, a.2.2.2.2, rfl, h⟩
theorem sat_cu4 {A1 A2 A3 A4 : Type} {β : Type} {e : Option (Mm × A1 × A2 × A3 × A4)} {f : Mm → A1 → A2 → A3 → A4 → Option β} {P : β → Prop} {G : Mm → A1 → A2 → A3 → A4 → Prop} (h : Sat (bn4 e f) P) (hj : ∀ (σ : Mm) (x1 : A1) (x2 : A2) (x3 : A3) (x4 : A4), Sat (f σ x1 x2 x3 x4) P → G σ x1 x2 x3 x4) : Sat e (fun a => G a.1 a.2.1 a.2.2.1 a.2.2.2.1 a.2.2.2.2) := by
  cases e with
  | none =>
    obtain ⟨b, h1, h2⟩ := h
    cases h1
  | some a => exact ⟨a, rfl, hj _ _ _ _ _ h⟩
def lq4 {A1 A2 A3 A4 : Type} {β : Type} (st : Mm → A1 → A2 → A3 → A4 → Option ((Mm × A1 × A2 × A3 × A4) ⊕ β)) : Nat → Mm → A1 → A2 → A3 → A4 → Option β
  | 0, _, _, _, _, _ => none
  | n + 1, σ, x1, x2, x3, x4 => match st σ x1 x2 x3 x4 with
    | none => none
    | some (.inl a) => lq4 st n a.1 a.2.1 a.2.2.1 a.2.2.2.1 a.2.2.2.2
    | some (.inr r) => some r
theorem lqr4 {A1 A2 A3 A4 : Type} {β : Type} {st : Mm → A1 → A2 → A3 → A4 → Option ((Mm × A1 × A2 × A3 × A4) ⊕ β)} {Gh : Mm → A1 → A2 → A3 → A4 → Prop} {Gx : β → Prop} (hb : ∀ (σ : Mm) (x1 : A1) (x2 : A2) (x3 : A3) (x4 : A4), Sat (st σ x1 x2 x3 x4) (Sum.elim (fun a => Gh a.1 a.2.1 a.2.2.1 a.2.2.2.1 a.2.2.2.2) Gx) → Gh σ x1 x2 x3 x4) : ∀ (n : Nat) (σ : Mm) (x1 : A1) (x2 : A2) (x3 : A3) (x4 : A4), Sat (lq4 st n σ x1 x2 x3 x4) Gx → Gh σ x1 x2 x3 x4 := by
  intro n
  induction n with
  | zero =>
    intro σ x1 x2 x3 x4 h
    obtain ⟨b, h1, h2⟩ := h
    cases h1
  | succ n ih =>
    intro σ x1 x2 x3 x4 h
    refine hb σ x1 x2 x3 x4 ?_
    obtain ⟨b, h1, h2⟩ := h
    simp only [lq4] at h1
    cases hs : st σ x1 x2 x3 x4 with
    | none =>
      rw [hs] at h1
      cases h1
    | some v =>
      rw [hs] at h1
      cases v with
      | inl a => exact ⟨_, rfl, ih a.1 a.2.1 a.2.2.1 a.2.2.2.1 a.2.2.2.2 ⟨b, h1, h2⟩⟩
      | inr r =>
        cases h1
        exact ⟨_, rfl, h2⟩
theorem lqm4 {A1 A2 A3 A4 : Type} {β : Type} {st : Mm → A1 → A2 → A3 → A4 → Option ((Mm × A1 × A2 × A3 × A4) ⊕ β)} {r : β} : ∀ (n m : Nat) (σ : Mm) (x1 : A1) (x2 : A2) (x3 : A3) (x4 : A4), n ≤ m → lq4 st n σ x1 x2 x3 x4 = some r → lq4 st m σ x1 x2 x3 x4 = some r := by
  intro n
  induction n with
  | zero =>
    intro m σ x1 x2 x3 x4 h h1
    cases h1
  | succ n ih =>
    intro m σ x1 x2 x3 x4 h h1
    obtain ⟨m, rfl⟩ : ∃ j, m = j + 1 := ⟨m - 1, by omega⟩
    simp only [lq4] at h1 ⊢
    cases hs : st σ x1 x2 x3 x4 with
    | none =>
      rw [hs] at h1
      cases h1
    | some v =>
      rw [hs] at h1
      cases v with
      | inl a => exact ih m a.1 a.2.1 a.2.2.1 a.2.2.2.1 a.2.2.2.2 (by omega) h1
      | inr r => exact h1
def bn5 {A1 A2 A3 A4 A5 : Type} {β : Type} (e : Option (Mm × A1 × A2 × A3 × A4 × A5)) (f : Mm → A1 → A2 → A3 → A4 → A5 → Option β) : Option β := match e with
  | none => none
  | some a => f a.1 a.2.1 a.2.2.1 a.2.2.2.1 a.2.2.2.2.1 a.2.2.2.2.2
theorem sat_ca5 {A1 A2 A3 A4 A5 : Type} {β : Type} {e : Option (Mm × A1 × A2 × A3 × A4 × A5)} {f : Mm → A1 → A2 → A3 → A4 → A5 → Option β} {P : β → Prop} (h : Sat (bn5 e f) P) : ∃ (σ : Mm) (x1 : A1) (x2 : A2) (x3 : A3) (x4 : A4) (x5 : A5), e = some (σ, x1, x2, x3, x4, x5) ∧ Sat (f σ x1 x2 x3 x4 x5) P := by
  cases e with
  | none =>
    obtain ⟨b, h1, h2⟩ := h
    cases h1
  | some a => exact ⟨a.1, a.2.1, a.2.2.1, a.2.2.2.1, a.2.2.2.2.1, a.2.2.2.2.2, rfl, h⟩
theorem sat_cu5 {A1 A2 A3 A4 A5 : Type} {β : Type} {e : Option (Mm × A1 × A2 × A3 × A4 × A5)} {f : Mm → A1 → A2 → A3 → A4 → A5 → Option β} {P : β → Prop} {G : Mm → A1 → A2 → A3 → A4 → A5 → Prop} (h : Sat (bn5 e f) P) (hj : ∀ (σ : Mm) (x1 : A1) (x2 : A2) (x3 : A3) (x4 : A4) (x5 : A5), Sat (f σ x1 x2 x3 x4 x5) P → G σ x1 x2 x3 x4 x5) : Sat e (fun a => G a.1 a.2.1 a.2.2.1 a.2.2.2.1 a.2.2.2.2.1 a.2.2.2.2.2) := by
  cases e with
  | none =>
    obtain ⟨b, h1, h2⟩ := h
    cases h1
  | some a => exact ⟨a, rfl, hj _ _ _ _ _ _ h⟩
def lq5 {A1 A2 A3 A4 A5 : Type} {β : Type} (st : Mm → A1 → A2 → A3 → A4 → A5 → Option ((Mm × A1 × A2 × A3 × A4 × A5) ⊕ β)) : Nat → Mm → A1 → A2 → A3 → A4 → A5 → Option β
  | 0, _, _, _, _, _, _ => none
  | n + 1, σ, x1, x2, x3, x4, x5 => match st σ x1 x2 x3 x4 x5 with
    | none => none
    | some (.inl a) => lq5 st n a.1 a.2.1 a.2.2.1 a.2.2.2.1 a.2.2.2.2.1 a.2.2.2.2.2
    | some (.inr r) => some r
theorem lqr5 {A1 A2 A3 A4 A5 : Type} {β : Type} {st : Mm → A1 → A2 → A3 → A4 → A5 → Option ((Mm × A1 × A2 × A3 × A4 × A5) ⊕ β)} {Gh : Mm → A1 → A2 → A3 → A4 → A5 → Prop} {Gx : β → Prop} (hb : ∀ (σ : Mm) (x1 : A1) (x2 : A2) (x3 : A3) (x4 : A4) (x5 : A5), Sat (st σ x1 x2 x3 x4 x5) (Sum.elim (fun a => Gh a.1 a.2.1 a.2.2.1 a.2.2.2.1 a.2.2.2.2.1 a.2.2.2.2.2) Gx) → Gh σ x1 x2 x3 x4 x5) : ∀ (n : Nat) (σ : Mm) (x1 : A1) (x2 : A2) (x3 : A3) (x4 : A4) (x5 : A5), Sat (lq5 st n σ x1 x2 x3 x4 x5) Gx → Gh σ x1 x2 x3 x4 x5 := by
  intro n
  induction n with
  | zero =>
    intro σ x1 x2 x3 x4 x5 h
    obtain ⟨b, h1, h2⟩ := h
    cases h1
  | succ n ih =>
    intro σ x1 x2 x3 x4 x5 h
    refine hb σ x1 x2 x3 x4 x5 ?_
    obtain ⟨b, h1, h2⟩ := h
    simp only [lq5] at h1
    cases hs : st σ x1 x2 x3 x4 x5 with
    | none =>
      rw [hs] at h1
      cases h1
    | some v =>
      rw [hs] at h1
      cases v with
      | inl a => exact ⟨_, rfl, ih a.1 a.2.1 a.2.2.1 a.2.2.2.1 a.2.2.2.2.1 a.2.2.2.2.2 ⟨b, h1, h2⟩⟩
      | inr r =>
        cases h1
        exact ⟨_, rfl, h2⟩
theorem lqm5 {A1 A2 A3 A4 A5 : Type} {β : Type} {st : Mm → A1 → A2 → A3 → A4 → A5 → Option ((Mm × A1 × A2 × A3 × A4 × A5) ⊕ β)} {r : β} : ∀ (n m : Nat) (σ : Mm) (x1 : A1) (x2 : A2) (x3 : A3) (x4 : A4) (x5 : A5), n ≤ m → lq5 st n σ x1 x2 x3 x4 x5 = some r → lq5 st m σ x1 x2 x3 x4 x5 = some r := by
  intro n
  induction n with
  | zero =>
    intro m σ x1 x2 x3 x4 x5 h h1
    cases h1
  | succ n ih =>
    intro m σ x1 x2 x3 x4 x5 h h1
    obtain ⟨m, rfl⟩ : ∃ j, m = j + 1 := ⟨m - 1, by omega⟩
    simp only [lq5] at h1 ⊢
    cases hs : st σ x1 x2 x3 x4 x5 with
    | none =>
      rw [hs] at h1
      cases h1
    | some v =>
      rw [hs] at h1
      cases v with
      | inl a => exact ih m a.1 a.2.1 a.2.2.1 a.2.2.2.1 a.2.2.2.2.1 a.2.2.2.2.2 (by omega) h1
      | inr r => exact h1
def bn6 {A1 A2 A3 A4 A5 A6 : Type} {β : Type} (e : Option (Mm × A1 × A2 × A3 × A4 × A5 × A6)) (f : Mm → A1 → A2 → A3 → A4 → A5 → A6 → Option β) : Option β := match e with
  | none => none
  | some a => f a.1 a.2.1 a.2.2.1 a.2.2.2.1 a.2.2.2.2.1 a.2.2.2.2.2.1 a.2.2.2.2.2.2
theorem sat_ca6 {A1 A2 A3 A4 A5 A6 : Type} {β : Type} {e : Option (Mm × A1 × A2 × A3 × A4 × A5 × A6)} {f : Mm → A1 → A2 → A3 → A4 → A5 → A6 → Option β} {P : β → Prop} (h : Sat (bn6 e f) P) : ∃ (σ : Mm) (x1 : A1) (x2 : A2) (x3 : A3) (x4 : A4) (x5 : A5) (x6 : A6), e = some (σ, x1, x2, x3, x4, x5, x6) ∧ Sat (f σ x1 x2 x3 x4 x5 x6) P := by
  cases e with
  | none =>
    obtain ⟨b, h1, h2⟩ := h
    cases h1
  | some a => exact ⟨a.1, a.2.1, a.2.2.1, a.2.2.2.1, a.2.2.2.2.1, a.2.2.2.2.2.1, a.2.2.2.2.2.2, rfl, h⟩
theorem sat_cu6 {A1 A2 A3 A4 A5 A6 : Type} {β : Type} {e : Option (Mm × A1 × A2 × A3 × A4 × A5 × A6)} {f : Mm → A1 → A2 → A3 → A4 → A5 → A6 → Option β} {P : β → Prop} {G : Mm → A1 → A2 → A3 → A4 → A5 → A6 → Prop} (h : Sat (bn6 e f) P) (hj : ∀ (σ : Mm) (x1 : A1) (x2 : A2) (x3 : A3) (x4 : A4) (x5 : A5) (x6 : A6), Sat (f σ x1 x2 x3 x4 x5 x6) P → G σ x1 x2 x3 x4 x5 x6) : Sat e (fun a => G a.1 a.2.1 a.2.2.1 a.2.2.2.1 a.2.2.2.2.1 a.2.2.2.2.2.1 a.2.2.2.2.2.2) := by
  cases e with
  | none =>
    obtain ⟨b, h1, h2⟩ := h
    cases h1
  | some a => exact ⟨a, rfl, hj _ _ _ _ _ _ _ h⟩
def lq6 {A1 A2 A3 A4 A5 A6 : Type} {β : Type} (st : Mm → A1 → A2 → A3 → A4 → A5 → A6 → Option ((Mm × A1 × A2 × A3 × A4 × A5 × A6) ⊕ β)) : Nat → Mm → A1 → A2 → A3 → A4 → A5 → A6 → Option β
  | 0, _, _, _, _, _, _, _ => none
  | n + 1, σ, x1, x2, x3, x4, x5, x6 => match st σ x1 x2 x3 x4 x5 x6 with
    | none => none
    | some (.inl a) => lq6 st n a.1 a.2.1 a.2.2.1 a.2.2.2.1 a.2.2.2.2.1 a.2.2.2.2.2.1 a.2.2.2.2.2.2
    | some (.inr r) => some r
theorem lqr6 {A1 A2 A3 A4 A5 A6 : Type} {β : Type} {st : Mm → A1 → A2 → A3 → A4 → A5 → A6 → Option ((Mm × A1 × A2 × A3 × A4 × A5 × A6) ⊕ β)} {Gh : Mm → A1 → A2 → A3 → A4 → A5 → A6 → Prop} {Gx : β → Prop} (hb : ∀ (σ : Mm) (x1 : A1) (x2 : A2) (x3 : A3) (x4 : A4) (x5 : A5) (x6 : A6), Sat (st σ x1 x2 x3 x4 x5 x6) (Sum.elim (fun a => Gh a.1 a.2.1 a.2.2.1 a.2.2.2.1 a.2.2.2.2.1 a.2.2.2.2.2.1 a.2.2.2.2.2.2) Gx) → Gh σ x1 x2 x3 x4 x5 x6) : ∀ (n : Nat) (σ : Mm) (x1 : A1) (x2 : A2) (x3 : A3) (x4 : A4) (x5 : A5) (x6 : A6), Sat (lq6 st n σ x1 x2 x3 x4 x5 x6) Gx → Gh σ x1 x2 x3 x4 x5 x6 := by
  intro n
  induction n with
  | zero =>
    intro σ x1 x2 x3 x4 x5 x6 h
    obtain ⟨b, h1, h2⟩ := h
    cases h1
  | succ n ih =>
    intro σ x1 x2 x3 x4 x5 x6 h
    refine hb σ x1 x2 x3 x4 x5 x6 ?_
    obtain ⟨b, h1, h2⟩ := h
    simp only [lq6] at h1
    cases hs : st σ x1 x2 x3 x4 x5 x6 with
    | none =>
      rw [hs] at h1
      cases h1
    | some v =>
      rw [hs] at h1
      cases v with
      | inl a => exact ⟨_, rfl, ih a.1 a.2.1 a.2.2.1 a.2.2.2.1 a.2.2.2.2.1 a.2.2.2.2.2.1 a.2.2.2.2.2.2 ⟨b, h1, h2⟩⟩
      | inr r =>
        cases h1
        exact ⟨_, rfl, h2⟩
theorem lqm6 {A1 A2 A3 A4 A5 A6 : Type} {β : Type} {st : Mm → A1 → A2 → A3 → A4 → A5 → A6 → Option ((Mm × A1 × A2 × A3 × A4 × A5 × A6) ⊕ β)} {r : β} : ∀ (n m : Nat) (σ : Mm) (x1 : A1) (x2 : A2) (x3 : A3) (x4 : A4) (x5 : A5) (x6 : A6), n ≤ m → lq6 st n σ x1 x2 x3 x4 x5 x6 = some r → lq6 st m σ x1 x2 x3 x4 x5 x6 = some r := by
  intro n
  induction n with
  | zero =>
    intro m σ x1 x2 x3 x4 x5 x6 h h1
    cases h1
  | succ n ih =>
    intro m σ x1 x2 x3 x4 x5 x6 h h1
    obtain ⟨m, rfl⟩ : ∃ j, m = j + 1 := ⟨m - 1, by omega⟩
    simp only [lq6] at h1 ⊢
    cases hs : st σ x1 x2 x3 x4 x5 x6 with
    | none =>
      rw [hs] at h1
      cases h1
    | some v =>
      rw [hs] at h1
      cases v with
      | inl a => exact ih m a.1 a.2.1 a.2.2.1 a.2.2.2.1 a.2.2.2.2.1 a.2.2.2.2.2.1 a.2.2.2.2.2.2 (by omega) h1
      | inr r => exact h1
def bn7 {A1 A2 A3 A4 A5 A6 A7 : Type} {β : Type} (e : Option (Mm × A1 × A2 × A3 × A4 × A5 × A6 × A7)) (f : Mm → A1 → A2 → A3 → A4 → A5 → A6 → A7 → Option β) : Option β := match e with
  | none => none
  | some a => f a.1 a.2.1 a.2.2.1 a.2.2.2.1 a.2.2.2.2.1 a.2.2.2.2.2.1 a.2.2.2.2.2.2.1 a.2.2.2.2.2.2.2
theorem sat_ca7 {A1 A2 A3 A4 A5 A6 A7 : Type} {β : Type} {e : Option (Mm × A1 × A2 × A3 × A4 × A5 × A6 × A7)} {f : Mm → A1 → A2 → A3 → A4 → A5 → A6 → A7 → Option β} {P : β → Prop} (h : Sat (bn7 e f) P) : ∃ (σ : Mm) (x1 : A1) (x2 : A2) (x3 : A3) (x4 : A4) (x5 : A5) (x6 : A6) (x7 : A7), e = some (σ, x1, x2, x3, x4, x5, x6, x7) ∧ Sat (f σ x1 x2 x3 x4 x5 x6 x7) P := by
  cases e with
  | none =>
    obtain ⟨b, h1, h2⟩ := h
    cases h1
  | some a => exact ⟨a.1, a.2.1, a.2.2.1, a.2.2.2.1, a.2.2.2.2.1, a.2.2.2.2.2.1, a.2.2.2.2.2.2.1, a.2.2.2.2.2.2.2, rfl, h⟩
theorem sat_cu7 {A1 A2 A3 A4 A5 A6 A7 : Type} {β : Type} {e : Option (Mm × A1 × A2 × A3 × A4 × A5 × A6 × A7)} {f : Mm → A1 → A2 → A3 → A4 → A5 → A6 → A7 → Option β} {P : β → Prop} {G : Mm → A1 → A2 → A3 → A4 → A5 → A6 → A7 → Prop} (h : Sat (bn7 e f) P) (hj : ∀ (σ : Mm) (x1 : A1) (x2 : A2) (x3 : A3) (x4 : A4) (x5 : A5) (x6 : A6) (x7 : A7), Sat (f σ x1 x2 x3 x4 x5 x6 x7) P → G σ x1 x2 x3 x4 x5 x6 x7) : Sat e (fun a => G a.1 a.2.1 a.2.2.1 a.2.2.2.1 a.2.2.2.2.1 a.2.2.2.2.2.1 a.2.2.2.2.2.2.1 a.2.2.2.2.2.2.2) := by
  cases e with
  | none =>
    obtain ⟨b, h1, h2⟩ := h
    cases h1
  | some a => exact ⟨a, rfl, hj _ _ _ _ _ _ _ _ h⟩
def lq7 {A1 A2 A3 A4 A5 A6 A7 : Type} {β : Type} (st : Mm → A1 → A2 → A3 → A4 → A5 → A6 → A7 → Option ((Mm × A1 × A2 × A3 × A4 × A5 × A6 × A7) ⊕ β)) : Nat → Mm → A1 → A2 → A3 → A4 → A5 → A6 → A7 → Option β
  | 0, _, _, _, _, _, _, _, _ => none
  | n + 1, σ, x1, x2, x3, x4, x5, x6, x7 => match st σ x1 x2 x3 x4 x5 x6 x7 with
    | none => none
    | some (.inl a) => lq7 st n a.1 a.2.1 a.2.2.1 a.2.2.2.1 a.2.2.2.2.1 a.2.2.2.2.2.1 a.2.2.2.2.2.2.1 a.2.2.2.2.2.2.2
    | some (.inr r) => some r
theorem lqr7 {A1 A2 A3 A4 A5 A6 A7 : Type} {β : Type} {st : Mm → A1 → A2 → A3 → A4 → A5 → A6 → A7 → Option ((Mm × A1 × A2 × A3 × A4 × A5 × A6 × A7) ⊕ β)} {Gh : Mm → A1 → A2 → A3 → A4 → A5 → A6 → A7 → Prop} {Gx : β → Prop} (hb : ∀ (σ : Mm) (x1 : A1) (x2 : A2) (x3 : A3) (x4 : A4) (x5 : A5) (x6 : A6) (x7 : A7), Sat (st σ x1 x2 x3 x4 x5 x6 x7) (Sum.elim (fun a => Gh a.1 a.2.1 a.2.2.1 a.2.2.2.1 a.2.2.2.2.1 a.2.2.2.2.2.1 a.2.2.2.2.2.2.1 a.2.2.2.2.2.2.2) Gx) → Gh σ x1 x2 x3 x4 x5 x6 x7) : ∀ (n : Nat) (σ : Mm) (x1 : A1) (x2 : A2) (x3 : A3) (x4 : A4) (x5 : A5) (x6 : A6) (x7 : A7), Sat (lq7 st n σ x1 x2 x3 x4 x5 x6 x7) Gx → Gh σ x1 x2 x3 x4 x5 x6 x7 := by
  intro n
  induction n with
  | zero =>
    intro σ x1 x2 x3 x4 x5 x6 x7 h
    obtain ⟨b, h1, h2⟩ := h
    cases h1
  | succ n ih =>
    intro σ x1 x2 x3 x4 x5 x6 x7 h
    refine hb σ x1 x2 x3 x4 x5 x6 x7 ?_
    obtain ⟨b, h1, h2⟩ := h
    simp only [lq7] at h1
    cases hs : st σ x1 x2 x3 x4 x5 x6 x7 with
    | none =>
      rw [hs] at h1
      cases h1
    | some v =>
      rw [hs] at h1
      cases v with
      | inl a => exact ⟨_, rfl, ih a.1 a.2.1 a.2.2.1 a.2.2.2.1 a.2.2.2.2.1 a.2.2.2.2.2.1 a.2.2.2.2.2.2.1 a.2.2.2.2.2.2.2 ⟨b, h1, h2⟩⟩
      | inr r =>
        cases h1
        exact ⟨_, rfl, h2⟩
theorem lqm7 {A1 A2 A3 A4 A5 A6 A7 : Type} {β : Type} {st : Mm → A1 → A2 → A3 → A4 → A5 → A6 → A7 → Option ((Mm × A1 × A2 × A3 × A4 × A5 × A6 × A7) ⊕ β)} {r : β} : ∀ (n m : Nat) (σ : Mm) (x1 : A1) (x2 : A2) (x3 : A3) (x4 : A4) (x5 : A5) (x6 : A6) (x7 : A7), n ≤ m → lq7 st n σ x1 x2 x3 x4 x5 x6 x7 = some r → lq7 st m σ x1 x2 x3 x4 x5 x6 x7 = some r := by
  intro n
  induction n with
  | zero =>
    intro m σ x1 x2 x3 x4 x5 x6 x7 h h1
    cases h1
  | succ n ih =>
    intro m σ x1 x2 x3 x4 x5 x6 x7 h h1
    obtain ⟨m, rfl⟩ : ∃ j, m = j + 1 := ⟨m - 1, by omega⟩
    simp only [lq7] at h1 ⊢
    cases hs : st σ x1 x2 x3 x4 x5 x6 x7 with
    | none =>
      rw [hs] at h1
      cases h1
    | some v =>
      rw [hs] at h1
      cases v with
      | inl a => exact ih m a.1 a.2.1 a.2.2.1 a.2.2.2.1 a.2.2.2.2.1 a.2.2.2.2.2.1 a.2.2.2.2.2.2.1 a.2.2.2.2.2.2.2 (by omega) h1
      | inr r => exact h1
