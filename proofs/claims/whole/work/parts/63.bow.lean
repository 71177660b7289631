/-! ===== the reference's bowings ===== -/
section BM
variable {τ : Mm} {p f c : Nat} {M : Nat → Nat}
theorem turnM {n w d mk : Nat} (hp : p < 3) (hn : n < 12) (hw : w < 2) (hd : d < 2) (h : τ 6 (12 * p + n) = nI mk) (hm : mk < 16) : f_X6_turn τ (nI p) (nI n) (nI w) (nI d) = some (τ, nI (if d = 1 ∧ mk &&& 4 ≠ 0 then 1000000 else tc mk (decide (w = d)))) := by
  have tt : f_X6_turn_t19 (nI p) (nI n) (nI w) (nI d) τ = some (τ, nI (tc mk (decide (w = d)))) := by
    unfold f_X6_turn_t19 tc
    rw [E_bn1 (show f_X6_is τ (nI p) (nI n) 2 = _ from is_eq (b := 2) hp hn h hm (by decide))]
    by_cases c2 : mk &&& 2 = 0
    · rw [if_pos c2, if_pos rfl, if_pos c2]
      by_cases e : w = d
      · subst e
        rw [if_pos rfl, if_pos (by simp), E_bn1 (show f_X6_is τ (nI p) (nI n) 1 = _ from is_eq (b := 1) hp hn h hm (by decide))]
        by_cases c1 : mk &&& 1 = 0
        · rw [if_pos c1, if_pos rfl, if_pos c1]
          rfl
        · rw [if_neg c1, if_neg (by decide), if_neg c1]
          rfl
      · rw [if_neg (fun q => e ((nI_eq (by omega) (by omega)).mp q)), if_neg (by simp [e])]
        rfl
    · rw [if_neg c2, if_neg (by decide), if_neg c2]
      by_cases e : w = d
      · subst e
        rw [if_pos rfl, if_pos (by simp)]
        rfl
      · rw [if_neg (fun q => e ((nI_eq (by omega) (by omega)).mp q)), if_neg (by simp [e])]
        rfl
  unfold f_X6_turn
  rw [E_bn1 (show f_X6_is τ (nI p) (nI n) 4 = _ from is_eq (b := 4) hp hn h hm (by decide))]
  by_cases c4 : mk &&& 4 = 0
  · rw [if_pos c4, if_pos rfl, tt, if_neg (fun q => q.2 c4)]
  · rw [if_neg c4, if_neg (by decide)]
    by_cases d1 : d = 1
    · subst d1
      rw [if_pos (show nI 1 = 1 from rfl), if_pos ⟨rfl, c4⟩]
      rfl
    · rw [if_neg (show ¬ nI d = 1 from fun q => d1 ((nI_eq (b := 1) (by omega) (by omega)).mp q)), tt, if_neg (fun q => d1 q.1)]
theorem goesM {n w d mk b0 b1 : Nat} (hp : p < 3) (hn : n < 12) (hw : w < 2) (hd : d < 2) (h : τ 6 (12 * p + n) = nI mk) (hm : mk < 16) (e0 : τ 16 (2 * n) = nI b0) (e1 : τ 16 (2 * n + 1) = nI b1) (l0 : b0 ≤ 36) (l1 : b1 ≤ 36) : f_X6_goes τ (nI p) (nI n) (nI w) (nI d) = some (τ, nI (gB mk b0 b1 w d)) := by
  unfold f_X6_goes
  rw [E_bn1 (turnM hp hn hw hd h hm), show (2 : Int32) * nI n = nI (2 * n) from pk_mul 2 n, nI_add, chk_t (inb_nI (by omega) (by decide)), ix_nI (show 2 * n + d < 2 ^ 31 by omega)]
  have t := tc_le mk (decide (w = d))
  unfold gB
  rcases (show d = 0 ∨ d = 1 by omega) with rfl | rfl
  · rw [Nat.add_zero, e0, if_neg (show ¬ (0 = 1 ∧ mk &&& 4 ≠ 0) from fun q => absurd q.1 (by decide)), nI_add, if_neg (show ¬ (1000000 : Int32) ≤ nI (tc mk (decide (w = 0)) + b0) from nI_ge (b := 1000000) (by omega) (by decide)), if_pos rfl, Nat.add_comm]
  · rw [e1, if_neg (show ¬ 1 = 0 by omega)]
    by_cases c4 : mk &&& 4 = 0
    · rw [if_neg (show ¬ (1 = 1 ∧ mk &&& 4 ≠ 0) from fun q => q.2 c4), nI_add, if_neg (show ¬ (1000000 : Int32) ≤ nI (tc mk (decide (w = 1)) + b1) from nI_ge (b := 1000000) (by omega) (by decide)), if_pos c4, Nat.add_comm]
    · rw [if_pos (show 1 = 1 ∧ mk &&& 4 ≠ 0 from ⟨rfl, c4⟩), nI_add, if_pos (show (1000000 : Int32) ≤ nI (1000000 + b1) from nI_le (a := 1000000) (by omega) (by omega)), if_neg c4]
      rfl
/-- a part's marks, as the reference holds them -/
def MkM (τ : Mm) (p c : Nat) (M : Nat → Nat) : Prop := τ 2 p = nI c ∧ c ≤ 12 ∧ ∀ n, n < c → τ 6 (12 * p + n) = nI (M n) ∧ M n < 16
theorem MkM.of {τ' : Mm} (h : MkM τ p c M) (h2 : τ' 2 = τ 2) (h6 : τ' 6 = τ 6) : MkM τ' p c M := by
  unfold MkM at h ⊢
  rw [h2, h6]
  exact h
def BhM (τ : Mm) (c : Nat) (M : Nat → Nat) (n : Nat) : Prop := τ 16 (2 * n) = nI (Bn M c n 0) ∧ τ 16 (2 * n + 1) = nI (Bn M c n 1)
theorem e2n (n : Nat) : (2 : Int32) * nI n = nI (2 * n) := pk_mul 2 n
theorem lm45 {n : Nat} (hp : p < 3) (hn : n < c) (h : MkM τ p c M) (hb : n + 1 < c → BhM τ c M (n + 1)) : Sat (lq1 (f_X6_makeBows_s45 (nI p) (nI n)) fu τ 0) (fun τ' => BhM τ' c M n ∧ (∀ k, k ≠ 16 → τ' k = τ k) ∧ ∀ i, 2 * n + 2 ≤ i → τ' 16 i = τ 16 i) := by
  have hc := h.2.1
  refine S_lq1 (fun τ' v => ∃ w, v = nI w ∧ w ≤ 2 ∧ (∀ u, u < w → τ' 16 (2 * n + u) = nI (Bn M c n u)) ∧ (∀ k, k ≠ 16 → τ' k = τ k) ∧ ∀ i, 2 * n + 2 ≤ i → τ' 16 i = τ 16 i) (fun _ v => 2 - v.toNatClampNeg) ?_ fu τ 0 (by unfold fu; omega) ⟨0, rfl, by omega, fun u hu => by omega, fun _ _ => rfl, fun _ _ => rfl⟩
  rintro τ' v ⟨w, rfl, hw, g1, g2, g3⟩
  unfold f_X6_makeBows_s45
  by_cases cw : w = 2
  · subst cw
    exact S_t (by decide) (S_inr ⟨⟨g1 0 (by omega), g1 1 (by omega)⟩, g2, g3⟩)
  · have hw' : w < 2 := by omega
    obtain ⟨a1, a2, a3⟩ := h.of (g2 2 (by omega)) (g2 6 (by omega))
    refine S_f (nI_ge (b := 2) hw' (by decide)) (S_chk (inb_nI hp (by decide)) ?_)
    have fin : ∀ x : Int32, x = nI (Bn M c n w) → Sat (chk (inb ((2 * nI n) + nI w) 24) (nm (ms τ' 16 ((2 * nI n) + nI w).toNatClampNeg x) (fun σ28 => some (.inl (σ28, (nI w + 1)))))) (Sum.elim (fun a : Mm × Int32 => (∃ w, a.2 = nI w ∧ w ≤ 2 ∧ (∀ u, u < w → a.1 16 (2 * n + u) = nI (Bn M c n u)) ∧ (∀ k, k ≠ 16 → a.1 k = τ k) ∧ ∀ i, 2 * n + 2 ≤ i → a.1 16 i = τ 16 i) ∧ 2 - a.2.toNatClampNeg < 2 - (nI w).toNatClampNeg) (fun τ' : Mm => BhM τ' c M n ∧ (∀ k, k ≠ 16 → τ' k = τ k) ∧ ∀ i, 2 * n + 2 ≤ i → τ' 16 i = τ 16 i)) := by
      intro x hx
      rw [e2n, nI_add, ix_nI (show 2 * n + w < 2 ^ 31 by omega)]
      refine S_chk (inb_nI (by omega) (by decide)) (S_nm (S_inl ?_))
      dsimp only
      refine ⟨⟨w + 1, nI_1 w, by omega, fun u hu => ?_, fun k hk => ?_, fun i hi => ?_⟩, ?_⟩
      · by_cases e : u = w
        · subst e
          rw [ms_eq, hx]
        · rw [ms_en (by omega)]
          exact g1 u (by omega)
      · rw [ms_ne hk]
        exact g2 k hk
      · rw [ms_en (by omega)]
        exact g3 i hi
      · rw [nI_1, ix_nI (show w + 1 < 2 ^ 31 by omega), ix_nI (show w < 2 ^ 31 by omega)]
        omega
    rw [ix_nI (show p < 2 ^ 31 by omega), a1, nI_sub1 (by omega)]
    by_cases cl : n + 1 = c
    · have en : nI n = nI (c - 1) := by rw [show c - 1 = n by omega]
      refine S_bn1 (S_t en (S_some (S_chk (inb_nI hp (by decide)) ?_)))
      dsimp only
      refine S_bn1 (S_t (by rw [a1, nI_sub1 (by omega)]; exact en) (S_some (S_bn1 (S_t (show (0 : Int32) ≤ 0 by decide) (S_some (fin 0 ?_))))))
      rw [Bn_last cl]
      rfl
    · have hn1 : n + 1 < c := by omega
      have en : ¬ nI n = nI (c - 1) := fun q => by
        have := (nI_eq (by omega) (by omega)).mp q
        omega
      obtain ⟨x1, x2⟩ := hb hn1
      obtain ⟨y1, y2⟩ := a3 (n + 1) hn1
      have b0 := Bn_le (M := M) (n := n + 1) (w := 0) hc
      have b1 := Bn_le (M := M) (n := n + 1) (w := 1) hc
      have l1 := gF_le (M := M) (n := n + 1) (w := w) (d := 0) hc
      have l2 := gF_le (M := M) (n := n + 1) (w := w) (d := 1) hc
      have z1 : τ' 16 (2 * (n + 1)) = nI (Bn M c (n + 1) 0) := by rw [g3 _ (by omega)]; exact x1
      have z2 : τ' 16 (2 * (n + 1) + 1) = nI (Bn M c (n + 1) 1) := by rw [g3 _ (by omega)]; exact x2
      refine S_bn1 (S_f en ?_)
      rw [nI_1 n]
      refine S_b1 (goesM (d := 0) hp (by omega) hw' (by omega) y1 y2 z1 z2 b0 b1) (S_some (S_chk (inb_nI hp (by decide)) ?_))
      dsimp only
      refine S_bn1 (S_f (by rw [a1, nI_sub1 (by omega)]; exact en) (S_b1 (goesM (d := 1) hp (by omega) hw' (by omega) y1 y2 z1 z2 b0 b1) (S_some ?_)))
      dsimp only
      have e0 : gB (M (n + 1)) (Bn M c (n + 1) 0) (Bn M c (n + 1) 1) w 0 = gF M c (n + 1) w 0 := rfl
      have e1 : gB (M (n + 1)) (Bn M c (n + 1) 0) (Bn M c (n + 1) 1) w 1 = gF M c (n + 1) w 1 := rfl
      rw [e0, e1]
      by_cases cc : gF M c (n + 1) w 1 ≤ gF M c (n + 1) w 0
      · refine S_bn1 (S_t (nI_le cc (by omega)) (S_some (fin _ ?_)))
        dsimp only
        rw [Bn_step hn1]
        by_cases c2 : gF M c (n + 1) w 1 < gF M c (n + 1) w 0
        · rw [if_pos c2]
        · rw [if_neg c2, show gF M c (n + 1) w 1 = gF M c (n + 1) w 0 by omega]
      · refine S_bn1 (S_f (nI_ge (by omega) (by omega)) (S_some (fin _ ?_)))
        dsimp only
        rw [Bn_step hn1, if_neg (by omega)]
theorem lm38 (hp : p < 3) (h0 : 0 < c) (h : MkM τ p c M) : Sat (lq1 (f_X6_makeBows_s38 (nI p)) fu τ (nI c - 1)) (fun τ' => (∀ n, n < c → BhM τ' c M n) ∧ ∀ k, k ≠ 16 → τ' k = τ k) := by
  have hc := h.2.1
  refine S_lq1 (fun τ' v => ∃ j, v = nI j - 1 ∧ j ≤ c ∧ (∀ n, j ≤ n → n < c → BhM τ' c M n) ∧ ∀ k, k ≠ 16 → τ' k = τ k) (fun _ v => (v + 1).toNatClampNeg) ?_ fu τ (nI c - 1) ?_ ⟨c, rfl, Nat.le_refl _, fun n a b => by omega, fun _ _ => rfl⟩
  · rintro τ' v ⟨j, rfl, hj, g1, g2⟩
    unfold f_X6_makeBows_s38
    by_cases cj : j = 0
    · subst cj
      exact S_t (show nI 0 - 1 < 0 by decide) (S_inr ⟨fun n hn => g1 n (by omega) hn, g2⟩)
    · obtain ⟨n, rfl⟩ : ∃ n, j = n + 1 := ⟨j - 1, by omega⟩
      have hn : n < c := by omega
      rw [nI_pred]
      refine S_f (nI_pos (by omega)) (S_bn0 (S_mono (lm45 hp hn (h.of (g2 2 (by omega)) (g2 6 (by omega))) (fun q => g1 (n + 1) (by omega) q)) (fun τ2 h2 => S_inl ?_)))
      dsimp only
      obtain ⟨s1, s2, s3⟩ := h2
      refine ⟨⟨n, (Int32.sub_eq_add_neg _ _).symm, by omega, fun m m1 m2 => ?_, fun k hk => ?_⟩, ?_⟩
      · by_cases q : m = n
        · subst q
          exact s1
        · unfold BhM
          rw [s3 (2 * m) (by omega), s3 (2 * m + 1) (by omega)]
          exact g1 m (by omega) m2
      · rw [s2 k hk]
        exact g2 k hk
      · rw [nI_1, ix_nI (show n + 1 < 2 ^ 31 by omega)]
        rw [show nI n + (-1) + 1 = nI n by rw [Int32.add_assoc]; exact Int32.add_zero _, ix_nI (by omega)]
        omega
  · rw [show nI c - 1 + 1 = nI c by rw [Int32.sub_eq_add_neg, Int32.add_assoc]; exact Int32.add_zero _, ix_nI (by omega)]
    unfold fu
    omega
theorem bl158 (hp : p < 3) (hf : f < 2) (h0 : 0 < c) (h : MkM τ p c M) (hb : ∀ n, n < c → BhM τ c M n) (hw : τ 17 (12 * p) = nI f) : Sat (lq1 (f_X6_makeBows_s158 (nI p)) fu τ 1) (fun τ' => (∀ n, n < c → τ' 17 (12 * p + n) = nI (dr M c f n)) ∧ (∀ k, k ≠ 17 → τ' k = τ k) ∧ ∀ i, (i < 12 * p ∨ 12 * p + 12 ≤ i) → τ' 17 i = τ 17 i) := by
  have hc := h.2.1
  refine S_lq1 (fun τ' v => ∃ j, v = nI j ∧ 1 ≤ j ∧ j ≤ c ∧ (∀ n, n < j → τ' 17 (12 * p + n) = nI (dr M c f n)) ∧ (∀ k, k ≠ 17 → τ' k = τ k) ∧ ∀ i, (i < 12 * p ∨ 12 * p + 12 ≤ i) → τ' 17 i = τ 17 i) (fun _ v => 12 - v.toNatClampNeg) ?_ fu τ 1 (by unfold fu; omega) ⟨1, rfl, by omega, by omega, fun n hn => ?_, fun _ _ => rfl, fun _ _ => rfl⟩
  · rintro τ' v ⟨j, rfl, j1, hj, g1, g2, g3⟩
    obtain ⟨a1, a2, a3⟩ := h.of (g2 2 (by omega)) (g2 6 (by omega))
    unfold f_X6_makeBows_s158
    refine S_chk (inb_nI hp (by decide)) ?_
    rw [ix_nI (show p < 2 ^ 31 by omega), a1]
    by_cases cj : j = c
    · subst cj
      exact S_t (nI_le (by omega) (by omega)) (S_inr ⟨g1, g2, g3⟩)
    · obtain ⟨m, rfl⟩ : ∃ m, j = m + 1 := ⟨j - 1, by omega⟩
      have hm : m + 1 < c := by omega
      have dl := dr_lt (M := M) (c := c) hf m
      refine S_f (nI_ge hm (by omega)) ?_
      rw [ix12 hp (show m + 1 < 12 by omega), show 12 * p + (m + 1) = 12 * p + m + 1 by omega, nI_pred, ix_nI (show 12 * p + m < 2 ^ 31 by omega), g1 m (by omega)]
      obtain ⟨x1, x2⟩ := hb (m + 1) hm
      obtain ⟨w1, w2⟩ := hb m (by omega)
      obtain ⟨y1, y2⟩ := a3 (m + 1) hm
      have b0 := Bn_le (M := M) (n := m + 1) (w := 0) hc
      have b1 := Bn_le (M := M) (n := m + 1) (w := 1) hc
      have l1 := gF_le (M := M) (n := m + 1) (w := dr M c f m) (d := 0) hc
      have l2 := gF_le (M := M) (n := m + 1) (w := dr M c f m) (d := 1) hc
      refine S_chk (inb_nI (by omega) (by decide)) (S_b1 (goesM (d := 0) hp (show m + 1 < 12 by omega) dl (by omega) y1 y2 (by rw [g2 16 (by omega)]; exact x1) (by rw [g2 16 (by omega)]; exact x2) b0 b1) ?_)
      have e0 : gB (M (m + 1)) (Bn M c (m + 1) 0) (Bn M c (m + 1) 1) (dr M c f m) 0 = gF M c (m + 1) (dr M c f m) 0 := rfl
      have e22 : (2 : Int32) * nI (m + 1) - 2 + nI (dr M c f m) = nI (2 * m + dr M c f m) := by
        rw [e2n, show nI (2 * (m + 1)) - 2 = nI (2 * (m + 1) - 2) from pk_sub (b := 2) (by omega), nI_add, show 2 * (m + 1) - 2 = 2 * m by omega]
      rw [e22, e0, ix_nI (show 2 * m + dr M c f m < 2 ^ 31 by omega)]
      have ew : τ' 16 (2 * m + dr M c f m) = nI (Bn M c m (dr M c f m)) := by
        rw [g2 16 (by omega)]
        rcases (show dr M c f m = 0 ∨ dr M c f m = 1 by omega) with q | q
        · rw [q]
          exact w1
        · rw [q]
          exact w2
      rw [ew]
      have lb := Bn_le (M := M) (n := m) (w := dr M c f m) hc
      have fin : ∀ x : Int32, x = nI (dr M c f (m + 1)) → Sat (chk (inb (nI (12 * p + m + 1)) 36) (nm (ms τ' 17 (nI (12 * p + m + 1)).toNatClampNeg x) (fun σ18 => some (.inl (σ18, (nI (m + 1) + 1)))))) (Sum.elim (fun a : Mm × Int32 => (∃ j, a.2 = nI j ∧ 1 ≤ j ∧ j ≤ c ∧ (∀ n, n < j → a.1 17 (12 * p + n) = nI (dr M c f n)) ∧ (∀ k, k ≠ 17 → a.1 k = τ k) ∧ ∀ i, (i < 12 * p ∨ 12 * p + 12 ≤ i) → a.1 17 i = τ 17 i) ∧ 12 - a.2.toNatClampNeg < 12 - (nI (m + 1)).toNatClampNeg) (fun τ' : Mm => (∀ n, n < c → τ' 17 (12 * p + n) = nI (dr M c f n)) ∧ (∀ k, k ≠ 17 → τ' k = τ k) ∧ ∀ i, (i < 12 * p ∨ 12 * p + 12 ≤ i) → τ' 17 i = τ 17 i)) := by
        intro x hx
        refine S_chk (inb_nI (by omega) (by decide)) (S_nm (S_inl ?_))
        dsimp only
        rw [ix_nI (show 12 * p + m + 1 < 2 ^ 31 by omega)]
        refine ⟨⟨m + 1 + 1, nI_1 _, by omega, by omega, fun n hn => ?_, fun k hk => ?_, fun i hi => ?_⟩, ?_⟩
        · by_cases e : n = m + 1
          · subst e
            rw [show 12 * p + (m + 1) = 12 * p + m + 1 by omega, ms_eq, hx]
          · rw [ms_en (by omega)]
            exact g1 n (by omega)
        · rw [ms_ne hk]
          exact g2 k hk
        · rw [ms_en (by omega)]
          exact g3 i hi
        · rw [nI_1, ix_nI (show m + 1 + 1 < 2 ^ 31 by omega), ix_nI (show m + 1 < 2 ^ 31 by omega)]
          omega
      refine S_chk (inb_nI (by omega) (by decide)) ?_
      by_cases cc : gF M c (m + 1) (dr M c f m) 0 ≤ gF M c (m + 1) (dr M c f m) 1
      · refine S_bn1 (S_t ?_ (S_some (fin 0 ?_)))
        · rw [Bn_step hm, if_neg (by omega)]
        · rw [dr_s, if_pos cc]
          rfl
      · refine S_bn1 (S_f ?_ (S_some (fin 1 ?_)))
        · rw [Bn_step hm, if_pos (by omega)]
          exact fun q => by
            have := (nI_eq (by omega) (by omega)).mp q
            omega
        · rw [dr_s, if_neg cc]
          rfl
  · have e : n = 0 := by omega
    subst e
    exact hw
theorem bowM (hp : p < 3) (hf : f < 2) (h : MkM τ p c M) : Sat (f_X6_makeBows τ (nI p) (nI f)) (fun o => (bcost M c f < 1000000 → o.2 = nI (bcost M c f) ∧ ∀ n, n < c → o.1 17 (12 * p + n) = nI (dr M c f n)) ∧ (¬ bcost M c f < 1000000 → o.2 = -3) ∧ (∀ k, k ≠ 16 → k ≠ 17 → o.1 k = τ k) ∧ ∀ i, (i < 12 * p ∨ 12 * p + 12 ≤ i) → o.1 17 i = τ 17 i) := by
  obtain ⟨a1, a2, a3⟩ := id h
  unfold f_X6_makeBows
  refine S_chk (inb_nI hp (by decide)) ?_
  rw [ix_nI (show p < 2 ^ 31 by omega), a1]
  by_cases c0 : c = 0
  · subst c0
    refine S_t rfl (S_some ⟨fun _ => ⟨?_, fun n hn => by omega⟩, fun q => ?_, fun _ _ _ => rfl, fun _ _ => rfl⟩)
    · unfold bcost
      rfl
    · exact absurd (show bcost M 0 f < 1000000 by unfold bcost; rw [if_pos rfl]; omega) q
  · refine S_f (nI_ne0 (by omega) (by omega)) ?_
    have main : ¬ (f = 1 ∧ M 0 &&& 4 ≠ 0) → Sat (f_X6_makeBows_t29 (nI p) (nI f) τ) (fun o => (bcost M c f < 1000000 → o.2 = nI (bcost M c f) ∧ ∀ n, n < c → o.1 17 (12 * p + n) = nI (dr M c f n)) ∧ (¬ bcost M c f < 1000000 → o.2 = -3) ∧ (∀ k, k ≠ 16 → k ≠ 17 → o.1 k = τ k) ∧ ∀ i, (i < 12 * p ∨ 12 * p + 12 ≤ i) → o.1 17 i = τ 17 i) := by
      intro hcc
      have eb : bcost M c f = Bn M c 0 f := by
        unfold bcost
        rw [if_neg c0, if_neg hcc]
      have lb := Bn_le (M := M) (n := 0) (w := f) a2
      unfold f_X6_makeBows_t29
      refine S_chk (inb_nI hp (by decide)) ?_
      rw [ix_nI (show p < 2 ^ 31 by omega), a1, show (12 : Int32) * nI p = nI (12 * p) from pk_mul 12 p, ix_nI (show 12 * p < 2 ^ 31 by omega)]
      refine S_bn0 (S_mono (lm38 hp (by omega) h) (fun τ1 h1 => S_chk (inb_nI (by omega) (by decide)) (S_nm (S_bn0 ?_))))
      obtain ⟨b1, b2⟩ := h1
      refine S_mono (bl158 (c := c) (M := M) hp hf (by omega) (h.of (by rw [ms_ne (by omega)]; exact b2 2 (by omega)) (by rw [ms_ne (by omega)]; exact b2 6 (by omega))) (fun n hn => ?_) ms_eq) (fun τ2 h2 => S_chk (inb_nI (by omega) (by decide)) (S_some ?_))
      · unfold BhM
        rw [ms_ne (by omega)]
        exact b1 n hn
      · obtain ⟨d1, d2, d3⟩ := h2
        refine ⟨fun _ => ⟨?_, d1⟩, fun q => by omega, fun k k1 k2 => ?_, fun i hi => ?_⟩
        · dsimp only
          rw [ix_nI (show f < 2 ^ 31 by omega), d2 16 (by omega), ms_ne (by omega), eb]
          obtain ⟨x1, x2⟩ := b1 0 (by omega)
          rcases (show f = 0 ∨ f = 1 by omega) with rfl | rfl
          · exact x1
          · exact x2
        · dsimp only
          rw [d2 k k2, ms_ne k2, b2 k k1]
        · dsimp only
          rw [d3 i hi, ms_en (by omega), b2 17 (by omega)]
    rcases (show f = 0 ∨ f = 1 by omega) with rfl | rfl
    · exact S_f (by decide) (main (by omega))
    · refine S_t rfl ?_
      obtain ⟨y1, y2⟩ := a3 0 (by omega)
      refine S_b1 (is_eq (n := 0) (b := 4) hp (by omega) y1 y2 (by decide)) ?_
      by_cases c4 : M 0 &&& 4 = 0
      · rw [if_pos c4]
        exact S_t rfl (main (by omega))
      · rw [if_neg c4]
        have eb : bcost M c 1 = 1000000 := by
          unfold bcost
          rw [if_neg c0, if_pos ⟨rfl, c4⟩]
        exact S_f (by decide) (S_some ⟨fun q => by omega, fun _ => rfl, fun _ _ _ => rfl, fun _ _ => rfl⟩)
end BM
