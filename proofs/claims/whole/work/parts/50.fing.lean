/-! ===== the cost of a step ===== -/
def absd (a b : Nat) : Nat := if a ≤ b then b - a else a - b
def strK (k : Nat) : Nat := k / 10000
def hdK (k : Nat) : Nat := k / 100 % 100
def stp (a b mk : Nat) : Nat := if hdK a = 0 ∨ hdK b = 0 ∨ hdK a = hdK b then absd (strK a) (strK b) else if mk &&& 9 ≠ 0 then absd (strK a) (strK b) else if mk &&& 2 ≠ 0 then 1000000 else absd (strK a) (strK b) + 2 * absd (hdK a) (hdK b)
theorem absd_le {a b c : Nat} (ha : a ≤ c) (hb : b ≤ c) : absd a b ≤ c := by
  unfold absd
  split <;> omega
theorem absd_comm (a b : Nat) : absd a b = absd b a := by
  unfold absd
  split <;> split <;> omega
theorem stp_le {a b mk : Nat} (ha : a < 100000) (hb : b < 100000) : stp a b mk ≤ 300 ∨ stp a b mk = 1000000 := by
  have h1 : absd (strK a) (strK b) ≤ 9 := absd_le (by unfold strK; omega) (by unfold strK; omega)
  have h2 : absd (hdK a) (hdK b) ≤ 99 := absd_le (by unfold hdK; omega) (by unfold hdK; omega)
  unfold stp
  split
  · omega
  · split
    · omega
    · split
      · exact Or.inr rfl
      · omega
theorem stp_ub {a b mk : Nat} (ha : a < 100000) (hb : b < 100000) : stp a b mk ≤ 1000000 := by
  rcases stp_le (mk := mk) ha hb with h | h <;> omega
theorem str_eq {σ : Mm} {k : Nat} (h : k < 100000) : f_X2_string σ (nI k) = some (σ, nI (strK k)) := by
  unfold f_X2_string strK
  rw [show nI k / 10000 = nI (k / 10000) from pk_div (d := 10000) (by omega) (by decide) (by decide)]
theorem hd_eq {σ : Mm} {k : Nat} (h : k < 100000) : f_X2_hand σ (nI k) = some (σ, nI (hdK k)) := by
  unfold f_X2_hand hdK
  rw [show nI k / 100 = nI (k / 100) from pk_div (d := 100) (by omega) (by decide) (by decide), show nI (k / 100) - nI (k / 100) / 100 * 100 = nI (k / 100 % 100) from pk_rem (d := 100) (by omega) (by decide) (by decide)]
theorem way_eq {σ : Mm} {k : Nat} (h : k < 100000) : f_X2_way σ (nI k) = some (σ, nI (k / 10 % 10)) := by
  unfold f_X2_way
  rw [show nI k / 10 = nI (k / 10) from pk_div (d := 10) (by omega) (by decide) (by decide), show nI (k / 10) - nI (k / 10) / 10 * 10 = nI (k / 10 % 10) from pk_rem (d := 10) (by omega) (by decide) (by decide)]
theorem gway_eq {σ : Mm} {k : Nat} (h : k < 100000) : f_X2_greaterWay σ (nI k) = some (σ, nI (k % 10)) := by
  unfold f_X2_greaterWay
  rw [show nI k - nI k / 10 * 10 = nI (k % 10) from pk_rem (d := 10) (by omega) (by decide) (by decide)]
theorem xt_eq {σ : Mm} {w : Nat} (h : w < 10) : f_X4_extension σ (nI w) = some (σ, nI (w / 5)) := by
  unfold f_X4_extension
  rw [show nI w / 5 = nI (w / 5) from pk_div (d := 5) (by omega) (by decide) (by decide)]
theorem exts_eq {σ : Mm} {k : Nat} (h : k < 100000) : f_X2_extensions σ (nI k) = some (σ, nI (extK k)) := by
  unfold f_X2_extensions
  rw [E_bn1 (way_eq h), E_bn1 (xt_eq (by omega)), E_bn1 (gway_eq h), E_bn1 (xt_eq (by omega)), nI_add]
  rfl
theorem abs_nI {x y : Nat} (hx : x < 1000) (hy : y < 1000) : (if 0 ≤ nI x - nI y then nI x - nI y else 0 - (nI x - nI y)) = nI (absd y x) := by
  have e : (nI x - nI y).toInt = (x : Int) - y := pk_sub_toInt (by omega) (by omega)
  have v0 : (0 : Int32).toInt = 0 := by decide
  unfold absd
  by_cases c : y ≤ x
  · rw [if_pos (by rw [fa_le, e, v0]; omega), if_pos c, pk_sub c]
  · rw [if_neg (by rw [fa_le, e, v0]; omega), if_neg c]
    apply Int32.toInt_inj.mp
    rw [fb_subN v0 e (by omega) (by omega), nI_toInt (by omega)]
    omega
theorem absd_self (a : Nat) : absd a a = 0 := by
  unfold absd
  rw [if_pos (Nat.le_refl _), Nat.sub_self]
theorem absd_pos {a b : Nat} (h : ¬ a = b) : 0 < absd a b := by
  unfold absd
  split <;> omega
/-- how far the hand goes -/
def shv (a b : Nat) : Nat := if hdK a = 0 ∨ hdK b = 0 ∨ hdK a = hdK b then 0 else absd (hdK a) (hdK b)
theorem hdI {k : Nat} (h : k < 100000) : (nI k / 100) - (nI k / 100) / 100 * 100 = nI (hdK k) := by
  unfold hdK
  rw [show nI k / 100 = nI (k / 100) from pk_div (d := 100) (by omega) (by decide) (by decide), show nI (k / 100) - nI (k / 100) / 100 * 100 = nI (k / 100 % 100) from pk_rem (d := 100) (by omega) (by decide) (by decide)]
theorem shv_ne {a b : Nat} (h : ¬ (hdK a = 0 ∨ hdK b = 0 ∨ hdK a = hdK b)) : ¬ nI (shv a b) = 0 := by
  have ba : hdK a < 100 := by unfold hdK; omega
  have bb : hdK b < 100 := by unfold hdK; omega
  have e : shv a b = absd (hdK a) (hdK b) := if_neg h
  have h1 := absd_pos (a := hdK a) (b := hdK b) (by omega)
  have h2 : absd (hdK a) (hdK b) ≤ 99 := absd_le (by omega) (by omega)
  rw [e]
  exact nI_ne0 (by omega) (by omega)
theorem shf_eq {σ : Mm} {a b : Nat} (ha : a < 100000) (hb : b < 100000) : f_X2_shift σ (nI a) (nI b) = some (σ, nI (shv a b)) := by
  have ba : hdK a < 100 := by unfold hdK; omega
  have bb : hdK b < 100 := by unfold hdK; omega
  unfold f_X2_shift
  rw [hdI ha, hdI hb]
  by_cases c1 : hdK a = 0
  · rw [if_pos (show nI (hdK a) = 0 by rw [c1]; rfl), show shv a b = 0 from if_pos (Or.inl c1)] <;> rfl
  · rw [if_neg (nI_ne0 (by omega) (by omega))]
    by_cases c2 : hdK b = 0
    · rw [if_pos (show nI (hdK b) = 0 by rw [c2]; rfl), show shv a b = 0 from if_pos (Or.inr (Or.inl c2))] <;> rfl
    · rw [if_neg (nI_ne0 (by omega) (by omega)), abs_nI (by omega) (by omega)]
      by_cases c3 : hdK a = hdK b
      · rw [show shv a b = 0 from if_pos (Or.inr (Or.inr c3)), c3, absd_self]
      · rw [show shv a b = absd (hdK a) (hdK b) from if_neg (by omega)]
theorem and_nI {mk b : Nat} (hm : mk < 16) (hb : b < 16) : (nI mk &&& nI b = 0) ↔ mk &&& b = 0 := by
  rw [fa_and]
  have h : mk &&& b < 2 ^ 31 := Nat.lt_of_le_of_lt Nat.and_le_left (by omega)
  exact nI_eq (a := mk &&& b) (b := 0) h (by decide)
theorem step_eq {σ : Mm} {a b mk : Nat} (ha : a < 100000) (hb : b < 100000) (hm : mk < 16) : f_X1_stepCost σ (nI a) (nI b) (nI mk) = some (σ, nI (stp a b mk)) := by
  have sa : strK a < 1000 := by unfold strK; omega
  have sb : strK b < 1000 := by unfold strK; omega
  have ta : hdK a < 1000 := by unfold hdK; omega
  have tb : hdK b < 1000 := by unfold hdK; omega
  unfold f_X1_stepCost
  rw [E_bn1 (str_eq hb), E_bn1 (str_eq ha), E_bn1 (shf_eq ha hb), abs_nI sb sa]
  unfold stp
  by_cases c1 : hdK a = 0 ∨ hdK b = 0 ∨ hdK a = hdK b
  · rw [show shv a b = 0 from if_pos c1, if_pos (show nI 0 = 0 from rfl), if_pos c1]
  · rw [if_neg (shv_ne c1), if_neg c1]
    by_cases c2 : mk &&& 9 = 0
    · rw [if_pos (show nI mk &&& 9 = 0 from (and_nI hm (b := 9) (by decide)).mpr c2), if_neg (show ¬ mk &&& 9 ≠ 0 from fun q => q c2)]
      by_cases c3 : mk &&& 2 = 0
      · rw [if_pos (show nI mk &&& 2 = 0 from (and_nI hm (b := 2) (by decide)).mpr c3), if_neg (show ¬ mk &&& 2 ≠ 0 from fun q => q c3), show shv a b = absd (hdK a) (hdK b) from if_neg c1, show (2 : Int32) * nI (absd (hdK a) (hdK b)) = nI (2 * absd (hdK a) (hdK b)) from pk_mul 2 _, nI_add]
      · rw [if_neg (show ¬ nI mk &&& 2 = 0 from fun q => c3 ((and_nI hm (b := 2) (by decide)).mp q)), if_pos (show mk &&& 2 ≠ 0 from c3)]
        rfl
    · rw [if_neg (show ¬ nI mk &&& 9 = 0 from fun q => c2 ((and_nI hm (b := 9) (by decide)).mp q)), if_pos (show mk &&& 9 ≠ 0 from c2)]
theorem has_eq {τ : Mm} {mk b : Nat} (hm : mk < 16) (hb : b < 16) : f_X6_has τ (nI mk) (nI b) = some (τ, if mk &&& b = 0 then 0 else 1) := by
  unfold f_X6_has
  by_cases c : mk &&& b = 0
  · rw [if_pos ((and_nI hm hb).mpr c), if_pos c]
  · rw [if_neg (fun q => c ((and_nI hm hb).mp q)), if_neg c]
theorem is_eq {τ : Mm} {p n mk b : Nat} (hp : p < 3) (hn : n < 12) (h : τ 6 (12 * p + n) = nI mk) (hm : mk < 16) (hb : b < 16) : f_X6_is τ (nI p) (nI n) (nI b) = some (τ, if mk &&& b = 0 then 0 else 1) := by
  unfold f_X6_is
  rw [ix12 hp hn, chk_t (in12 hp hn), ix_nI (by omega), h, E_bn1 (has_eq hm hb)]
  split <;> rfl
theorem apart_eq {τ : Mm} {a b : Nat} (ha : a < 1000) (hb : b < 1000) : f_X6_apart τ (nI a) (nI b) = some (τ, nI (absd a b)) := by
  unfold f_X6_apart absd
  by_cases c : b ≤ a
  · rw [if_pos (nI_le c (by omega)), pk_sub c]
    by_cases c2 : a ≤ b
    · rw [if_pos c2, show a - b = b - a by omega]
    · rw [if_neg c2]
  · rw [if_neg (nI_ge (by omega) (by omega)), pk_sub (by omega), if_pos (by omega)]
theorem handOf_eq {τ : Mm} {k : Nat} (h : k < 100000) : f_X6_handOf τ (nI (k / 10)) = some (τ, nI (hdK k)) := by
  unfold f_X6_handOf hdK
  rw [show nI (k / 10) - nI (k / 10) / 1000 * 1000 = nI (k / 10 % 1000) from pk_rem (d := 1000) (by omega) (by decide) (by decide), show nI (k / 10 % 1000) / 10 = nI (k / 10 % 1000 / 10) from pk_div (d := 10) (by omega) (by decide) (by decide), show k / 10 % 1000 / 10 = k / 100 % 100 by omega]
theorem comes_eq {τ : Mm} {p n a b mk x y : Nat} (hp : p < 3) (hn : n < 12) (hx : x < 6000) (hy : y < 6000) (ha : a < 100000) (hb : b < 100000) (hm : mk < 16) (e1 : τ 8 x = nI (a / 10)) (e2 : τ 8 y = nI (b / 10)) (e3 : τ 6 (12 * p + n) = nI mk) : f_X6_comes τ (nI p) (nI n) (nI x) (nI y) = some (τ, nI (stp a b mk)) := by
  have sa : strK a < 1000 := by unfold strK; omega
  have sb : strK b < 1000 := by unfold strK; omega
  have ta : hdK a < 1000 := by unfold hdK; omega
  have tb : hdK b < 1000 := by unfold hdK; omega
  have bx : inb (nI x) 6000 = true := inb_nI hx (by decide)
  have by_ : inb (nI y) 6000 = true := inb_nI hy (by decide)
  unfold f_X6_comes
  rw [chk_t bx, chk_t by_, ix_nI (by omega), ix_nI (show y < 2 ^ 31 by omega), e1, e2]
  rw [show nI (a / 10) / 1000 = nI (strK a) from by unfold strK; rw [show a / 10000 = a / 10 / 1000 by omega]; exact pk_div (d := 1000) (by omega) (by decide) (by decide)]
  rw [show nI (b / 10) / 1000 = nI (strK b) from by unfold strK; rw [show b / 10000 = b / 10 / 1000 by omega]; exact pk_div (d := 1000) (by omega) (by decide) (by decide)]
  rw [E_bn1 (apart_eq sa sb), chk_t bx, e1, E_bn1 (handOf_eq ha), chk_t by_, e2, E_bn1 (handOf_eq hb)]
  unfold stp
  by_cases c1 : hdK a = 0
  · rw [if_pos (show nI (hdK a) = 0 by rw [c1]; rfl), if_pos (Or.inl c1)]
  · rw [if_neg (nI_ne0 (by omega) (by omega))]
    by_cases c2 : hdK b = 0
    · rw [if_pos (show nI (hdK b) = 0 by rw [c2]; rfl), if_pos (Or.inr (Or.inl c2))]
    · rw [if_neg (nI_ne0 (by omega) (by omega))]
      by_cases c3 : hdK a = hdK b
      · rw [if_pos (by rw [c3]), if_pos (Or.inr (Or.inr c3))]
      · rw [if_neg (fun q => c3 ((nI_eq (by omega) (by omega)).mp q)), if_neg (by omega)]
        rw [E_bn1 (show f_X6_is τ (nI p) (nI n) 1 = _ from is_eq (b := 1) hp hn e3 hm (by decide))]
        have hbits : ∀ mk, mk < 16 → (mk &&& 9 = 0 ↔ mk &&& 1 = 0 ∧ mk &&& 8 = 0) := by decide
        have hbt := hbits mk hm
        by_cases c4 : mk &&& 1 = 0
        · rw [if_pos c4, if_pos rfl, E_bn1 (show f_X6_is τ (nI p) (nI n) 8 = _ from is_eq (b := 8) hp hn e3 hm (by decide))]
          by_cases c5 : mk &&& 8 = 0
          · have c9 := hbt.mpr ⟨c4, c5⟩
            rw [if_pos c5, if_pos rfl, E_bn1 (show f_X6_is τ (nI p) (nI n) 2 = _ from is_eq (b := 2) hp hn e3 hm (by decide)), if_neg (show ¬ mk &&& 9 ≠ 0 from fun q => q c9)]
            by_cases c6 : mk &&& 2 = 0
            · rw [if_pos c6, if_pos rfl, if_neg (show ¬ mk &&& 2 ≠ 0 from fun q => q c6), E_bn1 (apart_eq ta tb), show (2 : Int32) * nI (absd (hdK a) (hdK b)) = nI (2 * absd (hdK a) (hdK b)) from pk_mul 2 _, nI_add]
            · rw [if_neg c6, if_neg (by decide), if_pos (show mk &&& 2 ≠ 0 from c6)]
              rfl
          · rw [if_neg c5, if_neg (by decide), if_pos (show mk &&& 9 ≠ 0 from fun q => c5 (hbt.mp q).2)]
        · rw [if_neg c4, if_neg (by decide), if_pos (show mk &&& 9 ≠ 0 from fun q => c4 (hbt.mp q).1)]
/-! ===== least costs, as numbers ===== -/
def mnL (g : Nat → Nat) : Nat → Nat
  | 0 => 1000000
  | n + 1 => if g n < mnL g n then g n else mnL g n
/-- the first place where the least is -/
def amL (g : Nat → Nat) : Nat → Nat
  | 0 => 0
  | n + 1 => if g n < mnL g n then n else amL g n
theorem mnL_s (g : Nat → Nat) (n : Nat) : mnL g (n + 1) = if g n < mnL g n then g n else mnL g n := rfl
theorem amL_s (g : Nat → Nat) (n : Nat) : amL g (n + 1) = if g n < mnL g n then n else amL g n := rfl
theorem mnL_le (g : Nat → Nat) : ∀ n, mnL g n ≤ 1000000
  | 0 => Nat.le_refl _
  | n + 1 => by
    have := mnL_le g n
    rw [mnL_s]
    split <;> omega
theorem mnL_lb (g : Nat → Nat) : ∀ n i, i < n → mnL g n ≤ g i
  | 0, i, h => by omega
  | n + 1, i, h => by
    rw [mnL_s]
    by_cases c : i = n
    · subst c
      split <;> omega
    · have := mnL_lb g n i (by omega)
      split <;> omega
theorem amL_ok (g : Nat → Nat) : ∀ n, mnL g n < 1000000 → amL g n < n ∧ g (amL g n) = mnL g n ∧ ∀ j, j < amL g n → mnL g n < g j
  | 0, h => absurd h (Nat.lt_irrefl 1000000)
  | n + 1, h => by
    rw [amL_s, mnL_s]
    rw [mnL_s] at h
    by_cases c : g n < mnL g n
    · rw [if_pos c, if_pos c]
      refine ⟨by omega, rfl, fun j hj => ?_⟩
      exact Nat.lt_of_lt_of_le c (mnL_lb g n j hj)
    · rw [if_neg c] at h ⊢
      rw [if_neg c]
      obtain ⟨h1, h2, h3⟩ := amL_ok g n h
      exact ⟨by omega, h2, h3⟩
theorem mnL_cong {g g' : Nat → Nat} : ∀ n, (∀ i, i < n → g i = g' i) → mnL g n = mnL g' n
  | 0, _ => rfl
  | n + 1, h => by
    rw [mnL_s, mnL_s, h n (by omega), mnL_cong n (fun i hi => h i (by omega))]
def cap (e b : Nat) : Nat := if 1000000 ≤ b then 1000000 else e + b
/-- what a hold (by its key) of a note and all behind it cost, with m notes behind -/
def cst (K : Nat → List Nat) (M : Nat → Nat) (c : Nat) : Nat → Nat → Nat
  | 0, key => extK key
  | m + 1, key => cap (extK key) (mnL (fun i => cst K M c m ((K (c - 1 - m)).getD i 0) + stp key ((K (c - 1 - m)).getD i 0) (M (c - 1 - m))) (K (c - 1 - m)).length)
def Cn (K : Nat → List Nat) (M : Nat → Nat) (c n key : Nat) : Nat := cst K M c (c - 1 - n) key
def Gn (K : Nat → List Nat) (M : Nat → Nat) (c n key i : Nat) : Nat := Cn K M c n ((K n).getD i 0) + stp key ((K n).getD i 0) (M n)
theorem Cn_last {K : Nat → List Nat} {M : Nat → Nat} {c n key : Nat} (h : n + 1 = c) : Cn K M c n key = extK key := by
  unfold Cn
  rw [show c - 1 - n = 0 by omega]
  rfl
theorem Cn_step {K : Nat → List Nat} {M : Nat → Nat} {c n key : Nat} (h : n + 1 < c) : Cn K M c n key = cap (extK key) (mnL (Gn K M c (n + 1) key) (K (n + 1)).length) := by
  unfold Cn
  obtain ⟨m, hm⟩ : ∃ m, c - 1 - n = m + 1 := ⟨c - 2 - n, by omega⟩
  rw [hm]
  show cap (extK key) _ = _
  rw [show c - 1 - m = n + 1 by omega]
  unfold Gn Cn
  rw [show c - 1 - (n + 1) = m by omega]
theorem ext_le {k : Nat} : extK k ≤ 2 := by
  unfold extK
  omega
/-- costs are small, or there is no way -/
theorem cst_le {K : Nat → List Nat} {M : Nat → Nat} {c : Nat} (hK : ∀ n i, i < (K n).length → (K n).getD i 0 < 100000) : ∀ m key, key < 100000 → cst K M c m key ≤ 400 * (m + 1) ∨ cst K M c m key = 1000000
  | 0, key, _ => by
    left
    show extK key ≤ _
    have := ext_le (k := key)
    omega
  | m + 1, key, hk => by
    show cap (extK key) _ ≤ _ ∨ cap (extK key) _ = _
    generalize hg : (fun i => cst K M c m ((K (c - 1 - m)).getD i 0) + stp key ((K (c - 1 - m)).getD i 0) (M (c - 1 - m))) = g
    unfold cap
    split
    · exact Or.inr rfl
    · rename_i h
      left
      obtain ⟨h1, h2, -⟩ := amL_ok g (K (c - 1 - m)).length (by omega)
      have hx := hK (c - 1 - m) _ h1
      have := ext_le (k := key)
      rw [← h2] at h ⊢
      have e := congrFun hg.symm (amL g (K (c - 1 - m)).length)
      have q1 := cst_le (M := M) (c := c) hK m _ hx
      have q2 := stp_le (mk := M (c - 1 - m)) hk hx
      rcases q1 with q1 | q1
      · rcases q2 with q2 | q2
        · omega
        · omega
      · omega
theorem Cn_le {K : Nat → List Nat} {M : Nat → Nat} {c n key : Nat} (hK : ∀ n i, i < (K n).length → (K n).getD i 0 < 100000) (hc : c ≤ 12) (hk : key < 100000) : Cn K M c n key ≤ 4800 ∨ Cn K M c n key = 1000000 := by
  unfold Cn
  rcases cst_le (M := M) (c := c) hK (c - 1 - n) key hk with h | h
  · left
    have : 400 * (c - 1 - n + 1) ≤ 400 * 12 ∨ c = 0 := by
      rcases Nat.eq_zero_or_pos c with q | q
      · exact Or.inr q
      · left
        apply Nat.mul_le_mul_left
        omega
    rcases this with q | q
    · omega
    · subst q
      have e0 : 0 - 1 - n = 0 := by omega
      rw [e0] at h ⊢
      omega
  · exact Or.inr h
