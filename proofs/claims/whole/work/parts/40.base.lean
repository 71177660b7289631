/-! ===== plain facts for the checked programs ===== -/
theorem S_some {α : Type} {a : α} {P : α → Prop} (h : P a) : Sat (some a) P := ⟨a, rfl, h⟩
theorem S_eq {α : Type} {e : Option α} {a : α} {P : α → Prop} (e1 : e = some a) (h : P a) : Sat e P := ⟨a, e1, h⟩
theorem S_chk {α : Type} {b : Bool} {e : Option α} {P : α → Prop} (hb : b = true) (h : Sat e P) : Sat (chk b e) P := by
  unfold chk
  rw [if_pos hb]
  exact h
theorem chk_t {α : Type} {b : Bool} {e : Option α} (hb : b = true) : chk b e = e := by
  unfold chk
  rw [if_pos hb]
theorem S_if {α : Type} {c : Prop} [Decidable c] {A B : Option α} {P : α → Prop} (h1 : c → Sat A P) (h2 : ¬ c → Sat B P) : Sat (if c then A else B) P := by
  by_cases h : c
  · rw [if_pos h]
    exact h1 h
  · rw [if_neg h]
    exact h2 h
theorem S_t {α : Type} {c : Prop} [Decidable c] {A B : Option α} {P : α → Prop} (hc : c) (h : Sat A P) : Sat (if c then A else B) P := by
  rw [if_pos hc]
  exact h
theorem S_f {α : Type} {c : Prop} [Decidable c] {A B : Option α} {P : α → Prop} (hc : ¬ c) (h : Sat B P) : Sat (if c then A else B) P := by
  rw [if_neg hc]
  exact h
theorem S_mono {α : Type} {e : Option α} {P Q : α → Prop} (h : Sat e P) (hq : ∀ a, P a → Q a) : Sat e Q := by
  obtain ⟨a, h1, h2⟩ := h
  exact ⟨a, h1, hq a h2⟩
theorem S_bn0 {β : Type} {e : Option Mm} {f : Mm → Option β} {P : β → Prop} (h : Sat e (fun σ => Sat (f σ) P)) : Sat (bn0 e f) P := by
  obtain ⟨a, rfl, h2⟩ := h
  exact h2
theorem S_bn1 {A1 β : Type} {e : Option (Mm × A1)} {f : Mm → A1 → Option β} {P : β → Prop} (h : Sat e (fun a => Sat (f a.1 a.2) P)) : Sat (bn1 e f) P := by
  obtain ⟨a, rfl, h2⟩ := h
  exact h2
theorem S_bn2 {A1 A2 β : Type} {e : Option (Mm × A1 × A2)} {f : Mm → A1 → A2 → Option β} {P : β → Prop} (h : Sat e (fun a => Sat (f a.1 a.2.1 a.2.2) P)) : Sat (bn2 e f) P := by
  obtain ⟨a, rfl, h2⟩ := h
  exact h2
theorem S_bn3 {A1 A2 A3 β : Type} {e : Option (Mm × A1 × A2 × A3)} {f : Mm → A1 → A2 → A3 → Option β} {P : β → Prop} (h : Sat e (fun a => Sat (f a.1 a.2.1 a.2.2.1 a.2.2.2) P)) : Sat (bn3 e f) P := by
  obtain ⟨a, rfl, h2⟩ := h
  exact h2
theorem S_nm {β : Type} {x : Mm} {f : Mm → Option β} {P : β → Prop} (h : Sat (f x) P) : Sat (nm x f) P := h
theorem E_bn0 {β : Type} {e : Option Mm} {a : Mm} {f : Mm → Option β} (h : e = some a) : bn0 e f = f a := by
  rw [h]
  rfl
theorem E_bn1 {A1 β : Type} {e : Option (Mm × A1)} {a : Mm} {x : A1} {f : Mm → A1 → Option β} (h : e = some (a, x)) : bn1 e f = f a x := by
  rw [h]
  rfl
/-- a loop with an invariant and a measure -/
theorem S_lq1 {A1 β : Type} {st : Mm → A1 → Option ((Mm × A1) ⊕ β)} {G : β → Prop} (I : Mm → A1 → Prop) (μ : Mm → A1 → Nat) (hs : ∀ σ x, I σ x → Sat (st σ x) (Sum.elim (fun a => I a.1 a.2 ∧ μ a.1 a.2 < μ σ x) G)) : ∀ (n : Nat) (σ : Mm) (x : A1), μ σ x < n → I σ x → Sat (lq1 st n σ x) G := by
  intro n
  induction n with
  | zero => intro σ x h; omega
  | succ n ih =>
    intro σ x h hi
    obtain ⟨v, h1, h2⟩ := hs σ x hi
    unfold lq1
    rw [h1]
    cases v with
    | inl a => exact ih a.1 a.2 (by have := h2.2; omega) h2.1
    | inr r => exact ⟨r, rfl, h2⟩
theorem S_lq2 {A1 A2 β : Type} {st : Mm → A1 → A2 → Option ((Mm × A1 × A2) ⊕ β)} {G : β → Prop} (I : Mm → A1 → A2 → Prop) (μ : Mm → A1 → A2 → Nat) (hs : ∀ σ x y, I σ x y → Sat (st σ x y) (Sum.elim (fun a => I a.1 a.2.1 a.2.2 ∧ μ a.1 a.2.1 a.2.2 < μ σ x y) G)) : ∀ (n : Nat) (σ : Mm) (x : A1) (y : A2), μ σ x y < n → I σ x y → Sat (lq2 st n σ x y) G := by
  intro n
  induction n with
  | zero => intro σ x y h; omega
  | succ n ih =>
    intro σ x y h hi
    obtain ⟨v, h1, h2⟩ := hs σ x y hi
    unfold lq2
    rw [h1]
    cases v with
    | inl a => exact ih a.1 a.2.1 a.2.2 (by have := h2.2; omega) h2.1
    | inr r => exact ⟨r, rfl, h2⟩
theorem S_lq3 {A1 A2 A3 β : Type} {st : Mm → A1 → A2 → A3 → Option ((Mm × A1 × A2 × A3) ⊕ β)} {G : β → Prop} (I : Mm → A1 → A2 → A3 → Prop) (μ : Mm → A1 → A2 → A3 → Nat) (hs : ∀ σ x y z, I σ x y z → Sat (st σ x y z) (Sum.elim (fun a => I a.1 a.2.1 a.2.2.1 a.2.2.2 ∧ μ a.1 a.2.1 a.2.2.1 a.2.2.2 < μ σ x y z) G)) : ∀ (n : Nat) (σ : Mm) (x : A1) (y : A2) (z : A3), μ σ x y z < n → I σ x y z → Sat (lq3 st n σ x y z) G := by
  intro n
  induction n with
  | zero => intro σ x y z h; omega
  | succ n ih =>
    intro σ x y z h hi
    obtain ⟨v, h1, h2⟩ := hs σ x y z hi
    unfold lq3
    rw [h1]
    cases v with
    | inl a => exact ih a.1 a.2.1 a.2.2.1 a.2.2.2 (by have := h2.2; omega) h2.1
    | inr r => exact ⟨r, rfl, h2⟩
theorem S_lq4 {A1 A2 A3 A4 β : Type} {st : Mm → A1 → A2 → A3 → A4 → Option ((Mm × A1 × A2 × A3 × A4) ⊕ β)} {G : β → Prop} (I : Mm → A1 → A2 → A3 → A4 → Prop) (μ : Mm → A1 → A2 → A3 → A4 → Nat) (hs : ∀ σ x y z w, I σ x y z w → Sat (st σ x y z w) (Sum.elim (fun a => I a.1 a.2.1 a.2.2.1 a.2.2.2.1 a.2.2.2.2 ∧ μ a.1 a.2.1 a.2.2.1 a.2.2.2.1 a.2.2.2.2 < μ σ x y z w) G)) : ∀ (n : Nat) (σ : Mm) (x : A1) (y : A2) (z : A3) (w : A4), μ σ x y z w < n → I σ x y z w → Sat (lq4 st n σ x y z w) G := by
  intro n
  induction n with
  | zero => intro σ x y z w h; omega
  | succ n ih =>
    intro σ x y z w h hi
    obtain ⟨v, h1, h2⟩ := hs σ x y z w hi
    unfold lq4
    rw [h1]
    cases v with
    | inl a => exact ih a.1 a.2.1 a.2.2.1 a.2.2.2.1 a.2.2.2.2 (by have := h2.2; omega) h2.1
    | inr r => exact ⟨r, rfl, h2⟩
theorem S_inl {α β : Type} {a : α} {P : α → Prop} {G : β → Prop} (h : P a) : Sat (some (.inl a)) (Sum.elim P G) := ⟨_, rfl, h⟩
theorem S_inr {α β : Type} {a : β} {P : α → Prop} {G : β → Prop} (h : G a) : Sat (some (.inr a)) (Sum.elim P G) := ⟨_, rfl, h⟩
/-! memory -/
theorem ms_ne {σ : Mm} {k i j : Nat} {v : Int32} (h : j ≠ k) : ms σ k i v j = σ j := by
  unfold ms va_up
  rw [if_neg h]
theorem ms_eq {σ : Mm} {k i : Nat} {v : Int32} : ms σ k i v k i = v := by
  simp [ms, va_up, upd]
theorem ms_en {σ : Mm} {k i j : Nat} {v : Int32} (h : j ≠ i) : ms σ k i v k j = σ k j := by
  simp [ms, va_up, upd, h]
theorem ms_ap {σ : Mm} {k i a b : Nat} {v : Int32} : ms σ k i v a b = if a = k ∧ b = i then v else σ a b := by
  by_cases h1 : a = k
  · subst h1
    by_cases h2 : b = i
    · subst h2
      simp [ms_eq]
    · rw [ms_en h2, if_neg (fun q => h2 q.2)]
  · rw [ms_ne h1, if_neg (fun q => h1 q.1)]
/-! plain facts on numbers and arrays, to paste: each family by itself; over the kit's rows on nI and upd -/
/-! ===== order of ints, in all its forms, and through longs ===== -/
theorem fa_lt (a b : Int32) : a < b ↔ a.toInt < b.toInt := Int32.lt_iff_toInt_lt
theorem fa_le (a b : Int32) : a ≤ b ↔ a.toInt ≤ b.toInt := Int32.le_iff_toInt_le
theorem fa_eq (a b : Int32) : a = b ↔ a.toInt = b.toInt := Int32.toInt_inj.symm
theorem fa_lt64 (a b : Int64) : a < b ↔ a.toInt < b.toInt := Int64.lt_iff_toInt_lt
theorem fa_le64 (a b : Int64) : a ≤ b ↔ a.toInt ≤ b.toInt := Int64.le_iff_toInt_le
theorem fa_eq64 (a b : Int64) : a = b ↔ a.toInt = b.toInt := Int64.toInt_inj.symm
/-- a comparison of two ints taken as longs -/
theorem fa_wide_lt (a b : Int32) : a.toInt64 < b.toInt64 ↔ a < b := by rw [fa_lt64, fa_lt, Int32.toInt_toInt64, Int32.toInt_toInt64]
theorem fa_wide_le (a b : Int32) : a.toInt64 ≤ b.toInt64 ↔ a ≤ b := by rw [fa_le64, fa_le, Int32.toInt_toInt64, Int32.toInt_toInt64]
theorem fa_wide_eq (a b : Int32) : a.toInt64 = b.toInt64 ↔ a = b := by rw [fa_eq64, fa_eq, Int32.toInt_toInt64, Int32.toInt_toInt64]
/-- one strict comparison gives all the others -/
theorem fa_of_lt {a b : Int32} (h : a < b) : a ≤ b ∧ ¬ b ≤ a ∧ ¬ b < a ∧ a ≠ b ∧ b ≠ a := by
  rw [fa_lt] at h
  refine ⟨?_, ?_, ?_, ?_, ?_⟩
  · rw [fa_le]; omega
  · rw [fa_le]; omega
  · rw [fa_lt]; omega
  · intro e; rw [fa_eq] at e; omega
  · intro e; rw [fa_eq] at e; omega
theorem fa_of_nlt {a b : Int32} (h : ¬ a < b) : b ≤ a := by
  rw [fa_lt] at h
  rw [fa_le]
  omega
theorem fa_of_nle {a b : Int32} (h : ¬ a ≤ b) : b < a := by
  rw [fa_le] at h
  rw [fa_lt]
  omega
theorem fa_le_ne {a b : Int32} (h : a ≤ b) (h2 : a ≠ b) : a < b := by
  rw [fa_le] at h
  rw [fa_lt]
  have h3 : a.toInt ≠ b.toInt := fun e => h2 ((fa_eq a b).mpr e)
  omega
theorem fa_three (a b : Int32) : a < b ∨ a = b ∨ b < a := by
  rw [fa_lt, fa_lt, fa_eq]
  omega
theorem fa_trans {a b c : Int32} (h : a < b) (h2 : b ≤ c) : a < c := by
  rw [fa_lt] at *
  rw [fa_le] at h2
  omega
/-! ===== small literals as numbers ===== -/
theorem fa_lit (n : Nat) : (OfNat.ofNat n : Int32) = nI n := rfl
theorem fa_litL (n : Nat) : (OfNat.ofNat n : Int64) = lN n := rfl
/-! ===== bits of a number: 'or', masks, one bit ===== -/
theorem fa_and (a b : Nat) : nI a &&& nI b = nI (a &&& b) := by
  apply Int32.toBitVec_inj.1
  show BitVec.ofNat 32 a &&& BitVec.ofNat 32 b = BitVec.ofNat 32 (a &&& b)
  apply BitVec.eq_of_getLsbD_eq
  intro i hi
  simp [hi]
theorem fa_or (a b : Nat) : nI a ||| nI b = nI (a ||| b) := by
  apply Int32.toBitVec_inj.1
  show BitVec.ofNat 32 a ||| BitVec.ofNat 32 b = BitVec.ofNat 32 (a ||| b)
  apply BitVec.eq_of_getLsbD_eq
  intro i hi
  simp [hi]
/-- a remainder by a power of two, as a mask -/
theorem fa_mask (n k : Nat) : nI n &&& nI (2 ^ k - 1) = nI (n % 2 ^ k) := by rw [fa_and, Nat.and_two_pow_sub_one_eq_mod]
/-- 'or' of a high part and a low one that don't meet is their sum -/
theorem fb_rng (x : Int32) : -2147483648 ≤ x.toInt ∧ x.toInt < 2147483648 := by
  have h1 := Int32.le_toInt x
  have h2 := Int32.toInt_lt x
  omega
theorem fb_bmod {z : Int} (h1 : -2147483648 ≤ z) (h2 : z < 2147483648) : z.bmod (2 ^ 32) = z := by
  rw [Int.bmod_eq_of_le (by omega) (by omega)]
theorem fb_addI {x y : Int32} (h1 : -2147483648 ≤ x.toInt + y.toInt) (h2 : x.toInt + y.toInt < 2147483648) : (x + y).toInt = x.toInt + y.toInt := by
  rw [Int32.toInt_add, fb_bmod h1 h2]
theorem fb_subI {x y : Int32} (h1 : -2147483648 ≤ x.toInt - y.toInt) (h2 : x.toInt - y.toInt < 2147483648) : (x - y).toInt = x.toInt - y.toInt := by
  rw [Int32.toInt_sub, fb_bmod h1 h2]
theorem fb_mulI {x y : Int32} (h1 : -2147483648 ≤ x.toInt * y.toInt) (h2 : x.toInt * y.toInt < 2147483648) : (x * y).toInt = x.toInt * y.toInt := by
  rw [Int32.toInt_mul, fb_bmod h1 h2]
theorem fb_negI {x : Int32} (h : x.toInt ≠ -2147483648) : (-x).toInt = -x.toInt := by
  have := fb_rng x
  rw [Int32.toInt_neg, fb_bmod (by omega) (by omega)]
theorem fb_ofI {z : Int} (h1 : -2147483648 ≤ z) (h2 : z < 2147483648) : (Int32.ofInt z).toInt = z := by
  rw [Int32.toInt_ofInt, fb_bmod h1 h2]
theorem fb_asI (x : Int32) : Int32.ofInt x.toInt = x := Int32.ofInt_toInt x

theorem fb_addN {x y : Int32} {a b : Int} (hx : x.toInt = a) (hy : y.toInt = b) (h1 : -2147483648 ≤ a + b) (h2 : a + b < 2147483648) : (x + y).toInt = a + b := by
  rw [fb_addI (by rw [hx, hy]; exact h1) (by rw [hx, hy]; exact h2), hx, hy]
theorem fb_subN {x y : Int32} {a b : Int} (hx : x.toInt = a) (hy : y.toInt = b) (h1 : -2147483648 ≤ a - b) (h2 : a - b < 2147483648) : (x - y).toInt = a - b := by
  rw [fb_subI (by rw [hx, hy]; exact h1) (by rw [hx, hy]; exact h2), hx, hy]
theorem rng (x : Int32) (lo hi : Nat) (hh : hi < 2 ^ 31) (hl : lo < 2 ^ 31) : (∃ j, lo ≤ j ∧ j ≤ hi ∧ x = nI j) ∨ (x < nI lo ∨ ¬ x ≤ nI hi) := by
  by_cases h1 : x < nI lo
  · exact Or.inr (Or.inl h1)
  · by_cases h2 : x ≤ nI hi
    · left
      rw [fa_lt, nI_toInt hl] at h1
      rw [fa_le, nI_toInt hh] at h2
      refine ⟨x.toInt.toNat, by omega, by omega, ?_⟩
      apply Int32.toInt_inj.mp
      rw [nI_toInt (by omega)]
      omega
    · exact Or.inr (Or.inr h2)
theorem nI_nl {j lo : Nat} (h : lo ≤ j) (hj : j < 2 ^ 31) : ¬ nI j < nI lo := nI_nlt h hj
theorem nI_sub1 {c : Nat} (h : 0 < c) : nI c - 1 = nI (c - 1) := by
  obtain ⟨d, rfl⟩ : ∃ d, c = d + 1 := ⟨c - 1, by omega⟩
  exact nI_pred d
theorem inb_nI {k n : Nat} (h : k < n) (hn : n ≤ 2 ^ 31) : inb (nI k) n = true := by
  unfold inb
  rw [nI_clamp (by omega), Bool.and_eq_true]
  exact ⟨by simp [nI_pos (show k < 2 ^ 31 by omega)], by simp [h]⟩
theorem ix_nI {k : Nat} (h : k < 2 ^ 31) : (nI k).toNatClampNeg = k := nI_clamp h
/-! ranges asked for -/
theorem io_yes {σ : Mm} {a b c : Int32} (h1 : ¬ a < b) (h2 : a ≤ c) : f_X5_isOutside σ a b c = some (σ, 0) := by
  unfold f_X5_isOutside
  rw [if_neg h1, if_pos h2]
theorem io_no {σ : Mm} {a b c : Int32} (h : a < b ∨ ¬ a ≤ c) : f_X5_isOutside σ a b c = some (σ, 1) := by
  unfold f_X5_isOutside
  by_cases h1 : a < b
  · rw [if_pos h1]
  · rw [if_neg h1, if_neg (h.resolve_left h1)]
theorem in_yes {σ : Mm} {a b c : Int32} (h1 : ¬ a < b) (h2 : a ≤ c) : f_X6_in σ a b c = some (σ, 1) := by
  unfold f_X6_in
  rw [if_neg h1, if_neg (by rw [fa_lt]; rw [fa_le] at h2; omega)]
theorem in_no {σ : Mm} {a b c : Int32} (h : a < b ∨ ¬ a ≤ c) : f_X6_in σ a b c = some (σ, 0) := by
  unfold f_X6_in
  by_cases h1 : a < b
  · rw [if_pos h1]
  · have h2 := h.resolve_left h1
    rw [if_neg h1, if_pos (by rw [fa_lt]; rw [fa_le] at h2; omega)]
theorem io_n {σ : Mm} {j lo hi : Nat} (h1 : lo ≤ j) (h2 : j ≤ hi) (hh : hi < 2 ^ 31) : f_X5_isOutside σ (nI j) (nI lo) (nI hi) = some (σ, 0) := io_yes (nI_nl h1 (by omega)) (nI_le h2 hh)
theorem in_n {σ : Mm} {j lo hi : Nat} (h1 : lo ≤ j) (h2 : j ≤ hi) (hh : hi < 2 ^ 31) : f_X6_in σ (nI j) (nI lo) (nI hi) = some (σ, 1) := in_yes (nI_nl h1 (by omega)) (nI_le h2 hh)
theorem kd_part {p : Nat} (h : p < 3) : kdC (31 + 15 * p) = 2 := by
  rcases (show p = 0 ∨ p = 1 ∨ p = 2 by omega) with rfl | rfl | rfl <;> rfl
theorem inC_p {p j n : Nat} (h : p < 3) (hj : 1 ≤ j) (hj2 : j ≤ 6) (hn : n < 12) : inC (31 + 15 * p + j) (nI n) = true := by
  unfold inC
  rw [Bool.and_eq_true]
  have hk : kdC (31 + 15 * p + j) = 5 ∧ lnC (31 + 15 * p + j) = 12 := by
    rcases (show p = 0 ∨ p = 1 ∨ p = 2 by omega) with rfl | rfl | rfl <;> rcases (show j = 1 ∨ j = 2 ∨ j = 3 ∨ j = 4 ∨ j = 5 ∨ j = 6 by omega) with rfl | rfl | rfl | rfl | rfl | rfl <;> exact ⟨rfl, rfl⟩
  rw [hk.1, hk.2]
  exact ⟨rfl, inb_nI hn (by decide)⟩
theorem pa_yes {σ : Mm} {p : Nat} (h : p < 3) : f_X5_partAt σ (nI p) = some (σ, some (31 + 15 * p)) := by
  unfold f_X5_partAt
  rw [E_bn1 (show f_X5_isOutside σ (nI p) 0 2 = some (σ, 0) from io_n (lo := 0) (hi := 2) (by omega) (by omega) (by decide)), if_pos rfl, chk_t (inb_nI h (by decide)), ix_nI (by omega)]
theorem pa_no {σ : Mm} {a : Int32} (h : a < nI 0 ∨ ¬ a ≤ nI 2) : f_X5_partAt σ a = some (σ, none) := by
  unfold f_X5_partAt
  rw [E_bn1 (show f_X5_isOutside σ a 0 2 = some (σ, 1) from io_no h), if_neg (by decide)]
theorem ip_yes {τ : Mm} {p : Nat} (h : p < 3) : f_X6_isPart τ (nI p) = some (τ, 1) := by
  unfold f_X6_isPart
  rw [E_bn1 (show f_X6_in τ (nI p) 0 2 = some (τ, 1) from in_n (lo := 0) (hi := 2) (by omega) (by omega) (by decide))]
  rfl
theorem ip_no {τ : Mm} {a : Int32} (h : a < nI 0 ∨ ¬ a ≤ nI 2) : f_X6_isPart τ a = some (τ, 0) := by
  unfold f_X6_isPart
  rw [E_bn1 (show f_X6_in τ a 0 2 = some (τ, 0) from in_no h)]
  rfl
/-- a note's number against a count -/
theorem cnt_c (x : Int32) {c : Nat} (hc : c ≤ 12) : (∃ n, n < c ∧ x = nI n) ∨ (x < 0 ∨ ¬ x ≤ nI c - 1) := by
  by_cases h1 : x < 0
  · exact Or.inr (Or.inl h1)
  · by_cases h2 : x ≤ nI c - 1
    · left
      have e : (nI c - 1).toInt = (c : Int) - 1 := pk_sub_toInt (a := c) (b := 1) (by omega) (by decide)
      rw [fa_le, e] at h2
      rw [fa_lt] at h1
      have h0 : (0 : Int32).toInt = 0 := by decide
      rw [h0] at h1
      refine ⟨x.toInt.toNat, by omega, ?_⟩
      apply Int32.toInt_inj.mp
      rw [nI_toInt (by omega)]
      omega
    · exact Or.inr (Or.inr h2)
theorem cnt_y {n c : Nat} (h : n < c) (hc : c ≤ 12) : ¬ nI n < 0 ∧ nI n ≤ nI c - 1 := by
  refine ⟨nI_pos (by omega), ?_⟩
  rw [nI_sub1 (by omega)]
  exact nI_le (by omega) (by omega)
theorem pw_yes {σ : Mm} {p n c : Nat} (h : p < 3) (hc : σ (31 + 15 * p) 0 = nI c) (hc2 : c ≤ 12) (hn : n < c) : f_X5_partWith σ (nI p) (nI n) = some (σ, some (31 + 15 * p)) := by
  unfold f_X5_partWith
  rw [E_bn1 (pa_yes h)]
  show chk _ _ = _
  rw [chk_t (by rw [kd_part h]; rfl), hc, E_bn1 (io_yes (cnt_y hn hc2).1 (cnt_y hn hc2).2), if_pos rfl]
theorem pw_no1 {σ : Mm} {a b : Int32} (h : a < nI 0 ∨ ¬ a ≤ nI 2) : f_X5_partWith σ a b = some (σ, none) := by
  unfold f_X5_partWith
  rw [E_bn1 (pa_no h)]
  rfl
theorem pw_no2 {σ : Mm} {p c : Nat} {b : Int32} (h : p < 3) (hc : σ (31 + 15 * p) 0 = nI c) (hb : b < 0 ∨ ¬ b ≤ nI c - 1) : f_X5_partWith σ (nI p) b = some (σ, none) := by
  unfold f_X5_partWith
  rw [E_bn1 (pa_yes h)]
  show chk _ _ = _
  rw [chk_t (by rw [kd_part h]; rfl), hc, E_bn1 (io_no hb), if_neg (by decide)]
theorem nt_yes {τ : Mm} {p n c : Nat} (h : p < 3) (hc : τ 2 p = nI c) (hc2 : c ≤ 12) (hn : n < c) : f_X6_isNote τ (nI p) (nI n) = some (τ, 1) := by
  unfold f_X6_isNote
  rw [E_bn1 (ip_yes h), if_neg (by decide), chk_t (inb_nI h (by decide)), ix_nI (by omega), hc, E_bn1 (in_yes (cnt_y hn hc2).1 (cnt_y hn hc2).2), if_neg (by decide)]
theorem nt_no1 {τ : Mm} {a b : Int32} (h : a < nI 0 ∨ ¬ a ≤ nI 2) : f_X6_isNote τ a b = some (τ, 0) := by
  unfold f_X6_isNote
  rw [E_bn1 (ip_no h), if_pos rfl]
theorem nt_no2 {τ : Mm} {p c : Nat} {b : Int32} (h : p < 3) (hc : τ 2 p = nI c) (hb : b < 0 ∨ ¬ b ≤ nI c - 1) : f_X6_isNote τ (nI p) b = some (τ, 0) := by
  unfold f_X6_isNote
  rw [E_bn1 (ip_yes h), if_neg (by decide), chk_t (inb_nI h (by decide)), ix_nI (by omega), hc, E_bn1 (in_no hb), if_pos rfl]
