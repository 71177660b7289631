/-! ===== bowings, as numbers ===== -/
def tc (mk : Nat) (same : Bool) : Nat := if mk &&& 2 = 0 then (if same = true then (if mk &&& 1 = 0 then 3 else 1) else 0) else if same = true then 0 else 2
theorem tc_le (mk : Nat) (same : Bool) : tc mk same ≤ 3 := by
  unfold tc
  split <;> split <;> (try split) <;> omega
/-- what a note in a direction costs, with what the ones behind it cost -/
def gB (mk b0 b1 w d : Nat) : Nat := if d = 0 then b0 + tc mk (decide (w = 0)) else if mk &&& 4 = 0 then b1 + tc mk (decide (w = 1)) else 1000000
def bhd (M : Nat → Nat) (c : Nat) : Nat → Nat → Nat
  | 0, _ => 0
  | m + 1, w => if gB (M (c - 1 - m)) (bhd M c m 0) (bhd M c m 1) w 1 < gB (M (c - 1 - m)) (bhd M c m 0) (bhd M c m 1) w 0 then gB (M (c - 1 - m)) (bhd M c m 0) (bhd M c m 1) w 1 else gB (M (c - 1 - m)) (bhd M c m 0) (bhd M c m 1) w 0
def Bn (M : Nat → Nat) (c n w : Nat) : Nat := bhd M c (c - 1 - n) w
def gF (M : Nat → Nat) (c n w d : Nat) : Nat := gB (M n) (Bn M c n 0) (Bn M c n 1) w d
theorem Bn_last {M : Nat → Nat} {c n w : Nat} (h : n + 1 = c) : Bn M c n w = 0 := by
  unfold Bn
  rw [show c - 1 - n = 0 by omega]
  rfl
theorem Bn_step {M : Nat → Nat} {c n w : Nat} (h : n + 1 < c) : Bn M c n w = if gF M c (n + 1) w 1 < gF M c (n + 1) w 0 then gF M c (n + 1) w 1 else gF M c (n + 1) w 0 := by
  obtain ⟨m, hm⟩ : ∃ m, c - 1 - n = m + 1 := ⟨c - 2 - n, by omega⟩
  unfold gF Bn
  rw [hm, show c - 1 - (n + 1) = m by omega, show n + 1 = c - 1 - m by omega]
  rfl
theorem bhd_le (M : Nat → Nat) (c : Nat) : ∀ m w, bhd M c m w ≤ 3 * m
  | 0, _ => Nat.le_refl _
  | m + 1, w => by
    have h0 := bhd_le M c m 0
    have h1 := tc_le (M (c - 1 - m)) (decide (w = 0))
    have e : gB (M (c - 1 - m)) (bhd M c m 0) (bhd M c m 1) w 0 = bhd M c m 0 + tc (M (c - 1 - m)) (decide (w = 0)) := rfl
    show (if _ then _ else _) ≤ _
    split <;> omega
theorem Bn_le {M : Nat → Nat} {c n w : Nat} (hc : c ≤ 12) : Bn M c n w ≤ 36 := by
  have := bhd_le M c (c - 1 - n) w
  unfold Bn
  omega
theorem gF_le {M : Nat → Nat} {c n w d : Nat} (hc : c ≤ 12) : gF M c n w d ≤ 1000000 ∧ (d = 0 → gF M c n w d ≤ 39) := by
  have h0 := Bn_le (M := M) (n := n) (w := 0) hc
  have h1 := Bn_le (M := M) (n := n) (w := 1) hc
  have h2 := tc_le (M n) (decide (w = 0))
  have h3 := tc_le (M n) (decide (w = 1))
  unfold gF gB
  split
  · omega
  · split <;> omega
def dr (M : Nat → Nat) (c f : Nat) : Nat → Nat
  | 0 => f
  | n + 1 => if gF M c (n + 1) (dr M c f n) 0 ≤ gF M c (n + 1) (dr M c f n) 1 then 0 else 1
theorem dr_s (M : Nat → Nat) (c f n : Nat) : dr M c f (n + 1) = if gF M c (n + 1) (dr M c f n) 0 ≤ gF M c (n + 1) (dr M c f n) 1 then 0 else 1 := rfl
theorem dr_lt {M : Nat → Nat} {c f : Nat} (hf : f < 2) : ∀ n, dr M c f n < 2
  | 0 => hf
  | n + 1 => by
    rw [dr_s]
    split <;> omega
def bcost (M : Nat → Nat) (c f : Nat) : Nat := if c = 0 then 0 else if f = 1 ∧ M 0 &&& 4 ≠ 0 then 1000000 else Bn M c 0 f
theorem bcost_le {M : Nat → Nat} {c f : Nat} (hc : c ≤ 12) : bcost M c f ≤ 36 ∨ bcost M c f = 1000000 := by
  have := Bn_le (M := M) (n := 0) (w := f) hc
  unfold bcost
  split
  · omega
  · split <;> omega
/-! ===== the class's bowings ===== -/
section BC
variable {σ : Mm} {p f k0 c : Nat} {M : Nat → Nat}
theorem kd_b (hp : p < 3) (hf : f < 2) (hk : k0 = 31 + 15 * p + 7 + 4 * f) : kdC k0 = 0 := by
  subst hk
  rcases (show p = 0 ∨ p = 1 ∨ p = 2 by omega) with rfl | rfl | rfl <;> rcases (show f = 0 ∨ f = 1 by omega) with rfl | rfl <;> rfl
theorem inC_b {j n : Nat} (hp : p < 3) (hf : f < 2) (hk : k0 = 31 + 15 * p + 7 + 4 * f) (hj : 1 ≤ j) (hj2 : j ≤ 3) (hn : n < 12) : inC (k0 + j) (nI n) = true := by
  unfold inC
  rw [Bool.and_eq_true]
  have hk : kdC (k0 + j) = 5 ∧ lnC (k0 + j) = 12 := by
    subst hk
    rcases (show p = 0 ∨ p = 1 ∨ p = 2 by omega) with rfl | rfl | rfl <;> rcases (show f = 0 ∨ f = 1 by omega) with rfl | rfl <;> rcases (show j = 1 ∨ j = 2 ∨ j = 3 by omega) with rfl | rfl | rfl <;> exact ⟨rfl, rfl⟩
  rw [hk.1, hk.2]
  exact ⟨rfl, inb_nI hn (by decide)⟩
theorem mk_eq {n mk b : Nat} (hp : p < 3) (hn : n < 12) (h : σ (31 + 15 * p + 5) n = nI mk) (hm : mk < 16) (hb : b < 16) : f_X3_isMarked σ (31 + 15 * p) (nI n) (nI b) = some (σ, if mk &&& b = 0 then 0 else 1) := by
  unfold f_X3_isMarked
  rw [chk_t (by rw [kd_part hp]; rfl), chk_t (inC_p hp (by decide) (by decide) hn), ix_nI (by omega), h]
  by_cases c : mk &&& b = 0
  · rw [if_pos ((and_nI hm hb).mpr c), if_pos c]
  · rw [if_neg (fun q => c ((and_nI hm hb).mp q)), if_neg c]
theorem turnC {n mk : Nat} {same : Bool} (hp : p < 3) (hn : n < 12) (h : σ (31 + 15 * p + 5) n = nI mk) (hm : mk < 16) : f_X0_turnCost σ (31 + 15 * p) (nI n) (if same = true then 1 else 0) = some (σ, nI (tc mk same)) := by
  unfold f_X0_turnCost tc
  rw [chk_t (by rw [kd_part hp]; rfl), E_bn1 (show f_X3_isMarked σ (31 + 15 * p) (nI n) 2 = _ from mk_eq (b := 2) hp hn h hm (by decide))]
  by_cases c2 : mk &&& 2 = 0
  · rw [if_pos c2, if_pos rfl, if_pos c2]
    cases same
    · rfl
    · rw [if_neg (by decide), E_bn1 (show f_X3_isMarked σ (31 + 15 * p) (nI n) 1 = _ from mk_eq (b := 1) hp hn h hm (by decide)), if_pos rfl]
      by_cases c1 : mk &&& 1 = 0
      · rw [if_pos c1, if_pos rfl, if_pos c1]
        rfl
      · rw [if_neg c1, if_neg (by decide), if_neg c1]
        rfl
  · rw [if_neg c2, if_neg (by decide), if_neg c2]
    cases same <;> rfl
theorem costC {n w d mk b0 b1 : Nat} (hp : p < 3) (hf : f < 2) (hk : k0 = 31 + 15 * p + 7 + 4 * f) (hn : n < 12) (hw : w < 2) (hd : d < 2) (h : σ (31 + 15 * p + 5) n = nI mk) (hm : mk < 16) (e0 : σ (k0 + 2) n = nI b0) (e1 : σ (k0 + 3) n = nI b1) : f_X0_costFrom σ k0 (31 + 15 * p) (nI n) (nI w) (nI d) = some (σ, nI (gB mk b0 b1 w d)) := by
  unfold f_X0_costFrom gB
  have kb := kd_b hp hf hk
  by_cases cd : d = 0
  · subst cd
    rw [if_pos (show nI 0 = 0 from rfl), if_pos rfl, chk_t (by rw [kb]; rfl), chk_t (inC_b hp hf hk (by decide) (by decide) hn)]
    have es : (if nI w = 0 then some (σ, (1 : Int32)) else some (σ, 0)) = some (σ, if decide (w = 0) = true then 1 else 0) := by
      by_cases cw : w = 0
      · subst cw
        rfl
      · rw [if_neg (nI_ne0 (by omega) (by omega)), if_neg (by simp [cw])]
    rw [E_bn1 es, E_bn1 (turnC hp hn h hm), ix_nI (by omega), e0, nI_add]
  · have hd1 : d = 1 := by omega
    subst hd1
    rw [if_neg (show ¬ nI 1 = 0 by decide), if_neg (by omega), chk_t (by rw [kd_part hp]; rfl), E_bn1 (show f_X3_isMarked σ (31 + 15 * p) (nI n) 4 = _ from mk_eq (b := 4) hp hn h hm (by decide))]
    by_cases c4 : mk &&& 4 = 0
    · rw [if_pos c4, if_pos rfl, if_pos c4, chk_t (by rw [kb]; rfl), chk_t (inC_b hp hf hk (by decide) (by decide) hn)]
      have es : (if nI w = 1 then some (σ, (1 : Int32)) else some (σ, 0)) = some (σ, if decide (w = 1) = true then 1 else 0) := by
        by_cases cw : w = 1
        · subst cw
          rfl
        · rw [if_neg (show ¬ nI w = 1 from fun q => cw ((nI_eq (b := 1) (by omega) (by omega)).mp q)), if_neg (by simp [cw])]
      rw [E_bn1 es, E_bn1 (turnC hp hn h hm), ix_nI (by omega), e1, nI_add]
    · rw [if_neg c4, if_neg (by decide), if_neg c4]
      rfl
/-- a part's marks, as the class holds them -/
def MkC (σ : Mm) (p c : Nat) (M : Nat → Nat) : Prop := σ (31 + 15 * p) 0 = nI c ∧ c ≤ 12 ∧ ∀ n, n < c → σ (31 + 15 * p + 5) n = nI (M n) ∧ M n < 16
def BhC (σ : Mm) (k0 c : Nat) (M : Nat → Nat) (n : Nat) : Prop := σ (k0 + 2) n = nI (Bn M c n 0) ∧ σ (k0 + 3) n = nI (Bn M c n 1)
theorem minI {a b : Nat} (ha : a < 2 ^ 31) (hb : b < 2 ^ 31) : (if nI a < nI b then nI a else nI b) = nI (if a < b then a else b) := by
  by_cases c : a < b
  · rw [if_pos (nI_lt c hb), if_pos c]
  · rw [if_neg (nI_nlt (by omega) ha), if_neg c]
set_option maxHeartbeats 1000000 in
theorem reckC (hp : p < 3) (hf : f < 2) (hk : k0 = 31 + 15 * p + 7 + 4 * f) (h0 : 0 < c) (h : MkC σ p c M) : Sat (f_X0_reckonBehind σ k0 (31 + 15 * p)) (fun σ' => (∀ n, n < c → BhC σ' k0 c M n) ∧ ∀ k, k ≠ k0 + 2 → k ≠ k0 + 3 → σ' k = σ k) := by
  obtain ⟨a1, a2, a3⟩ := h
  unfold f_X0_reckonBehind
  have kb := kd_b hp hf hk
  refine S_chk (by rw [kd_part hp]; rfl) (S_chk (by rw [kb]; rfl) ?_)
  rw [a1, nI_sub1 h0, ix_nI (show c - 1 < 2 ^ 31 by omega)]
  refine S_chk (inC_b hp hf hk (by decide) (by decide) (by omega)) (S_nm (S_chk (inC_b hp hf hk (by decide) (by decide) (by omega)) (S_nm (S_bn0 ?_))))
  refine S_lq1 (fun σ' v => ∃ j, v = nI j ∧ j < c ∧ (∀ n, j ≤ n → n < c → BhC σ' k0 c M n) ∧ ∀ k, k ≠ k0 + 2 → k ≠ k0 + 3 → σ' k = σ k) (fun _ v => v.toNatClampNeg) ?_ fu _ _ (by rw [ix_nI (by omega)]; unfold fu; omega) ⟨c - 1, rfl, by omega, fun n n1 n2 => ?_, fun k k1 k2 => by rw [ms_ne k2, ms_ne k1]⟩
  · rintro σ' v ⟨j, rfl, hj, g1, g2⟩
    unfold f_X0_reckonBehind_s23
    by_cases cj : j = 0
    · subst cj
      exact S_t (by decide) (S_inr (S_some ⟨fun n hn => g1 n (by omega) hn, g2⟩))
    · obtain ⟨m, rfl⟩ : ∃ m, j = m + 1 := ⟨j - 1, by omega⟩
      obtain ⟨x1, x2⟩ := g1 (m + 1) (by omega) hj
      obtain ⟨y1, y2⟩ := a3 (m + 1) hj
      have l1 := gF_le (M := M) (n := m + 1) (w := 0) (d := 0) a2
      have l2 := gF_le (M := M) (n := m + 1) (w := 0) (d := 1) a2
      have l3 := gF_le (M := M) (n := m + 1) (w := 1) (d := 0) a2
      have l4 := gF_le (M := M) (n := m + 1) (w := 1) (d := 1) a2
      refine S_f (nI_ge (a := 0) (by omega) (by omega)) ?_
      refine S_b1 (costC (w := 0) (d := 0) hp hf hk (by omega) (by omega) (by omega) (by rw [g2 _ (by omega) (by omega)]; exact y1) y2 x1 x2) ?_
      refine S_b1 (costC (w := 0) (d := 1) hp hf hk (by omega) (by omega) (by omega) (by rw [g2 _ (by omega) (by omega)]; exact y1) y2 x1 x2) ?_
      have em0 : (if nI (gB (M (m + 1)) (Bn M c (m + 1) 0) (Bn M c (m + 1) 1) 0 1) < nI (gB (M (m + 1)) (Bn M c (m + 1) 0) (Bn M c (m + 1) 1) 0 0) then nI (gB (M (m + 1)) (Bn M c (m + 1) 0) (Bn M c (m + 1) 1) 0 1) else nI (gB (M (m + 1)) (Bn M c (m + 1) 0) (Bn M c (m + 1) 1) 0 0)) = nI (Bn M c m 0) := by
        rw [Bn_step hj]
        exact minI (a := gF M c (m + 1) 0 1) (b := gF M c (m + 1) 0 0) (by omega) (by omega)
      have em1 : (if nI (gB (M (m + 1)) (Bn M c (m + 1) 0) (Bn M c (m + 1) 1) 1 1) < nI (gB (M (m + 1)) (Bn M c (m + 1) 0) (Bn M c (m + 1) 1) 1 0) then nI (gB (M (m + 1)) (Bn M c (m + 1) 0) (Bn M c (m + 1) 1) 1 1) else nI (gB (M (m + 1)) (Bn M c (m + 1) 0) (Bn M c (m + 1) 1) 1 0)) = nI (Bn M c m 1) := by
        rw [Bn_step hj]
        exact minI (a := gF M c (m + 1) 1 1) (b := gF M c (m + 1) 1 0) (by omega) (by omega)
      rw [em0, nI_pred, ix_nI (show m < 2 ^ 31 by omega)]
      refine S_chk (inC_b hp hf hk (by decide) (by decide) (by omega)) (S_nm ?_)
      refine S_b1 (costC (w := 1) (d := 0) (b0 := Bn M c (m + 1) 0) (b1 := Bn M c (m + 1) 1) hp hf hk (by omega) (by omega) (by omega) (by rw [ms_ne (by omega), g2 _ (by omega) (by omega)]; exact y1) y2 (by rw [ms_en (by omega)]; exact x1) (by rw [ms_ne (by omega)]; exact x2)) ?_
      refine S_b1 (costC (w := 1) (d := 1) (b0 := Bn M c (m + 1) 0) (b1 := Bn M c (m + 1) 1) hp hf hk (by omega) (by omega) (by omega) (by rw [ms_ne (by omega), g2 _ (by omega) (by omega)]; exact y1) y2 (by rw [ms_en (by omega)]; exact x1) (by rw [ms_ne (by omega)]; exact x2)) ?_
      rw [em1]
      refine S_chk (inC_b hp hf hk (by decide) (by decide) (by omega)) (S_nm (S_inl ?_))
      dsimp only
      refine ⟨⟨m, ?_, by omega, fun n n1 n2 => ?_, fun k k1 k2 => ?_⟩, ?_⟩
      · rw [← nI_1, Int32.add_assoc]
        exact Int32.add_zero _
      · unfold BhC
        rw [ms_ne (by omega)]
        by_cases e : n = m
        · subst e
          rw [ms_eq, ms_eq]
          exact ⟨rfl, rfl⟩
        · rw [ms_en e, ms_en e, ms_ne (by omega)]
          exact g1 n (by omega) n2
      · rw [ms_ne k2, ms_ne k1]
        exact g2 k k1 k2
      · rw [show nI (m + 1) + -1 = nI m by rw [← nI_1, Int32.add_assoc]; exact Int32.add_zero _, ix_nI (by omega), ix_nI (by omega)]
        omega
  · have e : n = c - 1 := by omega
    subst e
    unfold BhC
    rw [ms_ne (by omega), ms_eq, ms_eq, Bn_last (by omega), Bn_last (by omega)]
    exact ⟨rfl, rfl⟩
set_option maxHeartbeats 1000000 in
theorem folC (hp : p < 3) (hf : f < 2) (hk : k0 = 31 + 15 * p + 7 + 4 * f) (h0 : 0 < c) (h : MkC σ p c M) (hb : ∀ n, n < c → BhC σ k0 c M n) : Sat (f_X0_follow σ k0 (31 + 15 * p) (nI f)) (fun σ' => (∀ n, n < c → σ' (k0 + 1) n = nI (dr M c f n)) ∧ ∀ k, k ≠ k0 + 1 → σ' k = σ k) := by
  obtain ⟨a1, a2, a3⟩ := h
  unfold f_X0_follow
  have kb := kd_b hp hf hk
  refine S_chk (by rw [kb]; rfl) (S_chk (inC_b (n := 0) hp hf hk (by decide) (by decide) (by omega)) (S_nm (S_bn0 ?_)))
  rw [show (0 : Int32).toNatClampNeg = 0 by decide]
  refine S_lq1 (fun σ' v => ∃ j, v = nI j ∧ 1 ≤ j ∧ j ≤ c ∧ (∀ n, n < j → σ' (k0 + 1) n = nI (dr M c f n)) ∧ ∀ k, k ≠ k0 + 1 → σ' k = σ k) (fun _ v => 12 - v.toNatClampNeg) ?_ fu _ 1 (by unfold fu; omega) ⟨1, rfl, by omega, by omega, fun n hn => ?_, fun k hk => ms_ne hk⟩
  · rintro σ' v ⟨j, rfl, j1, hj, g1, g2⟩
    unfold f_X0_follow_s9
    refine S_chk (by rw [kd_part hp]; rfl) ?_
    rw [g2 (31 + 15 * p) (by omega), a1]
    by_cases cj : j = c
    · subst cj
      exact S_t (nI_le (by omega) (by omega)) (S_inr (S_some ⟨g1, g2⟩))
    · obtain ⟨m, rfl⟩ : ∃ m, j = m + 1 := ⟨j - 1, by omega⟩
      obtain ⟨x1, x2⟩ := hb (m + 1) (by omega)
      obtain ⟨y1, y2⟩ := a3 (m + 1) (by omega)
      have l1 := gF_le (M := M) (n := m + 1) (w := dr M c f m) (d := 0) a2
      have l2 := gF_le (M := M) (n := m + 1) (w := dr M c f m) (d := 1) a2
      have dl := dr_lt (M := M) (c := c) hf m
      refine S_f (nI_ge (show m + 1 < c by omega) (by omega)) ?_
      rw [nI_pred, ix_nI (show m < 2 ^ 31 by omega), g1 m (by omega)]
      refine S_chk (inC_b hp hf hk (by decide) (by decide) (by omega)) ?_
      refine S_b1 (costC (d := 0) (b0 := Bn M c (m + 1) 0) (b1 := Bn M c (m + 1) 1) hp hf hk (by omega) dl (by omega) (by rw [g2 _ (by omega)]; exact y1) y2 (by rw [g2 _ (by omega)]; exact x1) (by rw [g2 _ (by omega)]; exact x2)) ?_
      refine S_b1 (costC (d := 1) (b0 := Bn M c (m + 1) 0) (b1 := Bn M c (m + 1) 1) hp hf hk (by omega) dl (by omega) (by rw [g2 _ (by omega)]; exact y1) y2 (by rw [g2 _ (by omega)]; exact x1) (by rw [g2 _ (by omega)]; exact x2)) ?_
      have e0 : gB (M (m + 1)) (Bn M c (m + 1) 0) (Bn M c (m + 1) 1) (dr M c f m) 0 = gF M c (m + 1) (dr M c f m) 0 := rfl
      have e1 : gB (M (m + 1)) (Bn M c (m + 1) 0) (Bn M c (m + 1) 1) (dr M c f m) 1 = gF M c (m + 1) (dr M c f m) 1 := rfl
      have fin : ∀ d : Int32, d = nI (dr M c f (m + 1)) → Sat (chk (inC (k0 + 1) (nI (m + 1))) (nm (ms σ' (k0 + 1) (nI (m + 1)).toNatClampNeg d) (fun σ12 => some (.inl (σ12, nI (m + 1) + 1))))) (Sum.elim (fun a => (∃ j, a.2 = nI j ∧ 1 ≤ j ∧ j ≤ c ∧ (∀ n, n < j → a.1 (k0 + 1) n = nI (dr M c f n)) ∧ ∀ k, k ≠ k0 + 1 → a.1 k = σ k) ∧ 12 - a.2.toNatClampNeg < 12 - (nI (m + 1)).toNatClampNeg) (fun σ4 : Mm => Sat (some σ4) (fun σ' : Mm => (∀ n, n < c → σ' (k0 + 1) n = nI (dr M c f n)) ∧ ∀ k, k ≠ k0 + 1 → σ' k = σ k))) := by
        intro d hd
        refine S_chk (inC_b hp hf hk (by decide) (by decide) (by omega)) (S_nm (S_inl ?_))
        dsimp only
        rw [ix_nI (show m + 1 < 2 ^ 31 by omega)]
        refine ⟨⟨m + 1 + 1, nI_1 _, by omega, by omega, fun n hn => ?_, fun k hk => ?_⟩, ?_⟩
        · by_cases e : n = m + 1
          · subst e
            rw [ms_eq, hd]
          · rw [ms_en e]
            exact g1 n (by omega)
        · rw [ms_ne hk]
          exact g2 k hk
        · rw [nI_1, ix_nI (show m + 1 + 1 < 2 ^ 31 by omega)]
          omega
      rw [e0, e1]
      by_cases cc : gF M c (m + 1) (dr M c f m) 0 ≤ gF M c (m + 1) (dr M c f m) 1
      · refine S_bn1 (S_f (nI_nlt cc (by omega)) (S_some (S_bn1 (S_f (show ¬ (1 : Int32) = 0 by decide) (S_some (fin 0 ?_))))))
        rw [dr_s, if_pos cc]
        rfl
      · refine S_bn1 (S_t (nI_lt (by omega) (by omega)) (S_some (S_bn1 (S_t rfl (S_some (fin 1 ?_))))))
        rw [dr_s, if_neg cc]
        rfl
  · have e : n = 0 := by omega
    subst e
    rw [ms_eq]
    rfl
set_option maxHeartbeats 1000000 in
theorem workC (hp : p < 3) (hf : f < 2) (hk : k0 = 31 + 15 * p + 7 + 4 * f) (h : MkC σ p c M) : Sat (f_X0_work σ k0 (31 + 15 * p) (nI f)) (fun σ' => σ' k0 0 = nI (bcost M c f) ∧ (bcost M c f < 1000000 → ∀ n, n < c → σ' (k0 + 1) n = nI (dr M c f n)) ∧ ∀ k, (k < k0 ∨ k0 + 3 < k) → σ' k = σ k) := by
  obtain ⟨a1, a2, a3⟩ := id h
  unfold f_X0_work
  have kb := kd_b hp hf hk
  refine S_chk (by rw [kb]; rfl) (S_nm (S_chk (by rw [kd_part hp]; rfl) ?_))
  rw [ms_ne (by omega), a1]
  have h2 : MkC (ms σ k0 0 0) p c M := by
    unfold MkC at h ⊢
    rw [ms_ne (by omega), ms_ne (by omega)]
    exact h
  by_cases c0 : c = 0
  · subst c0
    refine S_f (by decide) (S_some ⟨?_, fun _ n hn => by omega, fun k hk => ms_ne (by omega)⟩)
    rw [ms_eq]
    unfold bcost
    rfl
  · refine S_t (show 0 < nI c from nI_lt (a := 0) (by omega) (by omega)) ?_
    have main : ¬ (f = 1 ∧ M 0 &&& 4 ≠ 0) → Sat (f_X0_work_t34 k0 (31 + 15 * p) (nI f) (ms σ k0 0 0)) (fun σ' => σ' k0 0 = nI (bcost M c f) ∧ (bcost M c f < 1000000 → ∀ n, n < c → σ' (k0 + 1) n = nI (dr M c f n)) ∧ ∀ k, (k < k0 ∨ k0 + 3 < k) → σ' k = σ k) := by
      intro hcc
      have eb : bcost M c f = Bn M c 0 f := by
        unfold bcost
        rw [if_neg c0, if_neg hcc]
      unfold f_X0_work_t34
      refine S_bn0 (S_mono (reckC hp hf hk (by omega) h2) (fun σ1 h1 => ?_))
      obtain ⟨b1, b2⟩ := h1
      have key : Sat (if nI f = 0 then chk (inC (k0 + 2) 0) (some (σ1, σ1 (k0 + 2) (0 : Int32).toNatClampNeg)) else chk (inC (k0 + 3) 0) (some (σ1, σ1 (k0 + 3) (0 : Int32).toNatClampNeg))) (fun o => o = (σ1, nI (Bn M c 0 f))) := by
        rw [show (0 : Int32).toNatClampNeg = 0 by decide]
        obtain ⟨x1, x2⟩ := b1 0 (by omega)
        rcases (show f = 0 ∨ f = 1 by omega) with rfl | rfl
        · refine S_t rfl (S_chk (inC_b (n := 0) hp hf hk (by decide) (by decide) (by omega)) (S_some ?_))
          rw [x1]
        · refine S_f (by decide) (S_chk (inC_b (n := 0) hp hf hk (by decide) (by decide) (by omega)) (S_some ?_))
          rw [x2]
      refine S_bn1 (S_mono key (fun o ho => ?_))
      subst ho
      dsimp only
      refine S_nm (S_bn0 (S_mono (folC (c := c) (M := M) hp hf hk (by omega) ?_ (fun n hn => ?_)) (fun σ2 h2' => S_some ?_)))
      · unfold MkC at h2 ⊢
        rw [ms_ne (by omega), ms_ne (by omega), b2 _ (by omega) (by omega), b2 _ (by omega) (by omega)]
        exact h2
      · unfold BhC
        rw [ms_ne (by omega), ms_ne (by omega)]
        exact b1 n hn
      · obtain ⟨d1, d2⟩ := h2'
        refine ⟨?_, fun _ => d1, fun k hk2 => ?_⟩
        · rw [d2 k0 (by omega), ms_eq, eb]
        · rw [d2 k (by omega), ms_ne (by omega), b2 k (by omega) (by omega), ms_ne (by omega)]
    rcases (show f = 0 ∨ f = 1 by omega) with rfl | rfl
    · exact S_f (by decide) (main (by omega))
    · refine S_t rfl ?_
      obtain ⟨y1, y2⟩ := a3 0 (by omega)
      refine S_b1 (mk_eq (n := 0) (b := 4) (mk := M 0) hp (by omega) (by rw [ms_ne (by omega)]; exact y1) y2 (by decide)) ?_
      by_cases c4 : M 0 &&& 4 = 0
      · rw [if_pos c4]
        exact S_t rfl (main (by omega))
      · rw [if_neg c4]
        have eb : bcost M c 1 = 1000000 := by
          unfold bcost
          rw [if_neg c0, if_pos ⟨rfl, c4⟩]
        refine S_f (by decide) (S_nm (S_some ⟨?_, fun q => by omega, fun k hk2 => ?_⟩))
        · rw [ms_eq, eb]
          rfl
        · rw [ms_ne (by omega), ms_ne (by omega)]
end BC
