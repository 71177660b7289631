/-! ===== notes that go alike ===== -/
theorem ons_le {g : Nat → Nat} {b : Nat} : ∀ n, (∀ m, m < n → g m ≤ b) → ons g n ≤ b * n
  | 0, _ => Nat.zero_le _
  | n + 1, h => by
    have ih := ons_le n (fun m hm => h m (by omega))
    have := h n (by omega)
    rw [ons_s, Nat.mul_succ]
    omega
/-- what alike, or alike and of unlike strokes, counts for one pair -/
def gX (u : Nat) (L d : Nat → Nat → Nat) (p q a b : Nat) : Nat := if (ons (L p) a = ons (L q) b ∧ L p a = L q b) ∧ (u = 0 ∨ d p a ≠ d q b) then 1 else 0
def GX (u : Nat) (L d : Nat → Nat → Nat) (c : Nat → Nat) (p q : Nat) : Nat := ons (fun a => ons (gX u L d p q a) (c q)) (c p)
def RX (u : Nat) (L d : Nat → Nat → Nat) (c : Nat → Nat) (p q : Nat) : Nat := ons (fun j => GX u L d c p (p + 1 + j)) (q - p - 1)
def TX (u : Nat) (L d : Nat → Nat → Nat) (c : Nat → Nat) : Nat := ons (fun p => RX u L d c p 3) 3
theorem gX_le (u : Nat) (L d : Nat → Nat → Nat) (p q a b : Nat) : gX u L d p q a b ≤ 1 := by
  unfold gX
  split <;> omega
theorem GX_le {u : Nat} {L d : Nat → Nat → Nat} {c : Nat → Nat} {p q : Nat} (hp : c p ≤ 12) (hq : c q ≤ 12) : GX u L d c p q ≤ 144 := by
  have h : ∀ a, a < c p → ons (gX u L d p q a) (c q) ≤ 12 := fun a _ => by
    have := ons_le (g := gX u L d p q a) (b := 1) (c q) (fun m _ => gX_le u L d p q a m)
    omega
  have := ons_le (b := 12) (c p) h
  unfold GX
  omega
section AL
variable {σ τ : Mm} {O c : Nat → Nat} {P Q L M d : Nat → Nat → Nat} {u : Nat}
theorem Rels.ln (h : Rels σ τ O c P Q L M) {p n : Nat} (hp : p < 3) (hn : n < c p) : σ (31 + 15 * p + 3) n = nI (L p n) ∧ L p n ≤ 16 ∧ σ (31 + 15 * p + 4) n = nI (ons (L p) n) ∧ τ 5 (12 * p + n) = nI (L p n) ∧ ons (L p) n ≤ 192 ∧ n < 12 := by
  obtain ⟨x1, x2, x3⟩ := (h p hp).2.1.1 n hn
  have hc := (h p hp).1.2.2.1
  have := ons_le (g := L p) (b := 16) n (fun m hm => ((h p hp).2.1.1 m (by omega)).2.1)
  exact ⟨x1, x2, x3, (h p hp).2.2.2.2 n hn, by omega, by omega⟩
theorem alikeC (h : Rels σ τ O c P Q L M) {p q n m : Nat} (hp : p < 3) (hq : q < 3) (hn : n < c p) (hm : m < c q) : f_X5_areAlike σ (31 + 15 * p) (nI n) (31 + 15 * q) (nI m) = some (σ, if ons (L p) n = ons (L q) m ∧ L p n = L q m then 1 else 0) := by
  obtain ⟨x1, x2, x3, x4, x5, x6⟩ := h.ln hp hn
  obtain ⟨y1, y2, y3, y4, y5, y6⟩ := h.ln hq hm
  unfold f_X5_areAlike
  rw [chk_t (by rw [kd_part hp]; rfl), chk_t (inC_p hp (by decide) (by decide) x6), chk_t (by rw [kd_part hq]; rfl), chk_t (inC_p hq (by decide) (by decide) y6), ix_nI (show n < 2 ^ 31 by omega), ix_nI (show m < 2 ^ 31 by omega), x3, y3, x1, y1]
  by_cases c1 : ons (L p) n = ons (L q) m
  · rw [if_pos (by rw [c1]), chk_t (inC_p hp (by decide) (by decide) x6), chk_t (inC_p hq (by decide) (by decide) y6)]
    by_cases c2 : L p n = L q m
    · rw [if_pos (by rw [c2]), if_pos ⟨c1, c2⟩]
    · rw [if_neg (fun q => c2 ((nI_eq (by omega) (by omega)).mp q)), if_neg (fun q => c2 q.2)]
  · rw [if_neg (fun q => c1 ((nI_eq (by omega) (by omega)).mp q)), if_neg (fun q => c1 q.1)]
theorem alikeM (h : Rels σ τ O c P Q L M) {p q n m : Nat} (hp : p < 3) (hq : q < 3) (hn : n < c p) (hm : m < c q) : f_X6_areAlike τ (nI p) (nI n) (nI q) (nI m) = some (τ, if ons (L p) n = ons (L q) m ∧ L p n = L q m then 1 else 0) := by
  obtain ⟨x1, x2, x3, x4, x5, x6⟩ := h.ln hp hn
  obtain ⟨y1, y2, y3, y4, y5, y6⟩ := h.ln hq hm
  unfold f_X6_areAlike
  rw [ix12 hp x6, ix12 hq y6, chk_t (in12 hp x6), chk_t (in12 hq y6), ix_nI (show 12 * p + n < 2 ^ 31 by omega), ix_nI (show 12 * q + m < 2 ^ 31 by omega), x4, y4]
  by_cases c2 : L p n = L q m
  · rw [if_pos (by rw [c2]), E_bn1 (onsetM hp (by omega) (fun k hk => (h.ln hp (show k < c p by omega)).2.2.2.1)), E_bn1 (onsetM hq (by omega) (fun k hk => (h.ln hq (show k < c q by omega)).2.2.2.1))]
    by_cases c1 : ons (L p) n = ons (L q) m
    · rw [if_pos (by rw [c1]), if_pos ⟨c1, c2⟩]
    · rw [if_neg (fun q => c1 ((nI_eq (by omega) (by omega)).mp q)), if_neg (fun q => c1 q.1)]
  · rw [if_neg (fun q => c2 ((nI_eq (by omega) (by omega)).mp q)), if_neg (fun q => c2 q.2)]
/-- a part and a note of it, for both -/
theorem note_c (h : Rels σ τ O c P Q L M) (x y : Int32) : (∃ p n, p < 3 ∧ n < c p ∧ x = nI p ∧ y = nI n ∧ f_X5_partWith σ x y = some (σ, some (31 + 15 * p)) ∧ f_X6_isNote τ x y = some (τ, 1)) ∨ (f_X5_partWith σ x y = some (σ, none) ∧ f_X6_isNote τ x y = some (τ, 0)) := by
  rcases rng x 0 2 (by decide) (by decide) with ⟨p, -, hp, rfl⟩ | ha
  · have hp' : p < 3 := by omega
    obtain ⟨a1, hc, -⟩ := h.mkC hp'
    obtain ⟨e1, -, -⟩ := h.mkM hp'
    rcases cnt_c y hc with ⟨n, hn, rfl⟩ | hy
    · exact Or.inl ⟨p, n, hp', hn, rfl, rfl, pw_yes hp' a1 hc hn, nt_yes hp' e1 hc hn⟩
    · exact Or.inr ⟨pw_no2 hp' a1 hy, nt_no2 hp' e1 hy⟩
  · exact Or.inr ⟨pw_no1 ha, nt_no1 ha⟩
end AL
theorem sim_alike (σ τ : Mm) (x y z w : Int32) (h : Rel σ τ) : Two (f_X5_alike σ x y z w) (f_X6_alike τ x y z w) := by
  unfold f_X5_alike f_X6_alike
  obtain ⟨O, c, P, Q, L, M, h'⟩ := id h
  have h9 : Rels σ τ O c P Q L M := h'
  rcases note_c h9 x y with ⟨p, n, hp, hn, rfl, rfl, x1, x2⟩ | ⟨x1, x2⟩
  · rcases note_c h9 z w with ⟨q, m, hq, hm, rfl, rfl, y1, y2⟩ | ⟨y1, y2⟩
    · apply two
      by_cases e : nI p = nI q
      · exact S_b1 x1 (S_on1 (S_b1 y1 (S_on1 (S_t e (S_some (S_b1 x2 (S_f (by decide) (S_b1 y2 (S_f (by decide) (S_t e (S_some ⟨rfl, h⟩)))))))))))
      · refine S_b1 x1 (S_on1 (S_b1 y1 (S_on1 (S_f e (S_b1 (alikeC h9 hp hq hn hm) ?_)))))
        by_cases ca : ons (L p) n = ons (L q) m ∧ L p n = L q m
        · rw [if_pos ca]
          refine S_f (by decide) (S_some (S_b1 x2 (S_f (by decide) (S_b1 y2 (S_f (by decide) (S_f e (S_b1 (alikeM h9 hp hq hn hm) ?_)))))))
          rw [if_pos ca]
          exact S_f (by decide) (S_some ⟨rfl, h⟩)
        · rw [if_neg ca]
          refine S_t rfl (S_some (S_b1 x2 (S_f (by decide) (S_b1 y2 (S_f (by decide) (S_f e (S_b1 (alikeM h9 hp hq hn hm) ?_)))))))
          rw [if_neg ca]
          exact S_t rfl (S_some ⟨rfl, h⟩)
    · exact two (S_b1 x1 (S_on1 (S_b1 y1 (S_on0 (S_some (S_b1 x2 (S_f (by decide) (S_b1 y2 (S_t rfl (S_some ⟨rfl, h⟩))))))))))
  · rcases note_c h9 z w with ⟨q, m, hq, hm, rfl, rfl, y1, y2⟩ | ⟨y1, y2⟩
    · exact two (S_b1 x1 (S_on0 (S_b1 y1 (S_on1 (S_some (S_b1 x2 (S_t rfl (S_some ⟨rfl, h⟩))))))))
    · exact two (S_b1 x1 (S_on0 (S_b1 y1 (S_on0 (S_some (S_b1 x2 (S_t rfl (S_some ⟨rfl, h⟩))))))))
section AC
variable {σ τ : Mm} {O c : Nat → Nat} {P Q L M d : Nat → Nat → Nat} {u : Nat}
theorem gX0 {p q a b : Nat} : gX 0 L d p q a b = if ons (L p) a = ons (L q) b ∧ L p a = L q b then 1 else 0 := by
  unfold gX
  by_cases h : ons (L p) a = ons (L q) b ∧ L p a = L q b
  · rw [if_pos ⟨h, Or.inl rfl⟩, if_pos h]
  · rw [if_neg (fun z => h z.1), if_neg h]
theorem ofTwoC (h : Rels σ τ O c P Q L M) {p q : Nat} (hp : p < 3) (hq : q < 3) : f_X5_countAlikeOfTwo σ (31 + 15 * p) (31 + 15 * q) = some (σ, nI (GX 0 L d c p q)) := by
  obtain ⟨a1, hc, -⟩ := h.mkC hp
  obtain ⟨b1, hc2, -⟩ := h.mkC hq
  have key : Sat (f_X5_countAlikeOfTwo σ (31 + 15 * p) (31 + 15 * q)) (fun o => o = (σ, nI (GX 0 L d c p q))) := by
    unfold f_X5_countAlikeOfTwo
    refine S_bn1 ?_
    refine S_lq2 (fun σ' s v => σ' = σ ∧ ∃ j, v = nI j ∧ j ≤ c p ∧ s = nI (ons (fun a => ons (gX 0 L d p q a) (c q)) j)) (fun _ _ v => 12 - v.toNatClampNeg) ?_ fu σ 0 0 (by unfold fu; omega) ⟨rfl, 0, rfl, by omega, rfl⟩
    rintro σ' s v ⟨rfl, j, rfl, hj, rfl⟩
    unfold f_X5_countAlikeOfTwo_s4
    refine S_chk (by rw [kd_part hp]; rfl) ?_
    rw [a1]
    by_cases cj : j = c p
    · subst cj
      exact S_t (nI_le (by omega) (by omega)) (S_inr (S_some rfl))
    · have hj' : j < c p := by omega
      refine S_f (nI_ge hj' (by omega)) (S_bn1 ?_)
      refine S_mono (P := fun o => o = (σ', nI (ons (fun a => ons (gX 0 L d p q a) (c q)) (j + 1)))) ?_ (fun o ho => ?_)
      · refine S_lq2 (fun σ2 s v => σ2 = σ' ∧ ∃ i, v = nI i ∧ i ≤ c q ∧ s = nI (ons (fun a => ons (gX 0 L d p q a) (c q)) j + ons (gX 0 L d p q j) i)) (fun _ _ v => 12 - v.toNatClampNeg) ?_ fu σ' _ 0 (by unfold fu; omega) ⟨rfl, 0, rfl, by omega, rfl⟩
        rintro σ2 s v ⟨rfl, i, rfl, hi, rfl⟩
        unfold f_X5_countAlikeOfTwo_s15
        refine S_chk (by rw [kd_part hq]; rfl) ?_
        rw [b1]
        by_cases ci : i = c q
        · subst ci
          exact S_t (nI_le (by omega) (by omega)) (S_inr rfl)
        · have hi' : i < c q := by omega
          refine S_f (nI_ge hi' (by omega)) (S_b1 (alikeC h hp hq hj' hi') ?_)
          have e := gX0 (L := L) (d := d) (p := p) (q := q) (a := j) (b := i)
          by_cases ca : ons (L p) j = ons (L q) i ∧ L p j = L q i
          · rw [if_pos ca] at e ⊢
            refine S_f (by decide) (S_inl ⟨⟨rfl, i + 1, nI_1 i, by omega, ?_⟩, ms12 (by omega)⟩)
            dsimp only
            rw [ons_s, e, ← Nat.add_assoc, ← nI_1]
          · rw [if_neg ca] at e ⊢
            refine S_t rfl (S_inl ⟨⟨rfl, i + 1, nI_1 i, by omega, ?_⟩, ms12 (by omega)⟩)
            dsimp only
            rw [ons_s, e, Nat.add_zero]
      · subst ho
        exact S_inl ⟨⟨rfl, j + 1, nI_1 j, by omega, rfl⟩, ms12 (by omega)⟩
  obtain ⟨o, h1, rfl⟩ := key
  exact h1
theorem ms3 {j : Nat} (h : j < 3) : 3 - (nI j + 1).toNatClampNeg < 3 - (nI j).toNatClampNeg := by
  rw [nI_1, ix_nI (show j + 1 < 2 ^ 31 by omega), ix_nI (show j < 2 ^ 31 by omega)]
  omega
theorem RX_s {p q : Nat} (h : p < q) : RX u L d c p (q + 1) = RX u L d c p q + GX u L d c p q := by
  unfold RX
  rw [show q + 1 - p - 1 = (q - p - 1) + 1 by omega, ons_s, show p + 1 + (q - p - 1) = q by omega]
theorem RX_0 {p : Nat} : RX u L d c p (p + 1) = 0 := by
  unfold RX
  rw [show p + 1 - p - 1 = 0 by omega]
  rfl
theorem allAlikeC (h : Rels σ τ O c P Q L M) : f_X5_countAlike σ = some (σ, nI (TX 0 L d c)) := by
  have key : Sat (f_X5_countAlike σ) (fun o => o = (σ, nI (TX 0 L d c))) := by
    unfold f_X5_countAlike
    refine S_bn1 ?_
    refine S_lq2 (fun σ' s v => σ' = σ ∧ ∃ p, v = nI p ∧ p ≤ 3 ∧ s = nI (ons (fun p => RX 0 L d c p 3) p)) (fun _ _ v => 3 - v.toNatClampNeg) ?_ fu σ 0 0 (by unfold fu; omega) ⟨rfl, 0, rfl, by omega, rfl⟩
    rintro σ' s v ⟨rfl, p, rfl, hp, rfl⟩
    unfold f_X5_countAlike_s4
    by_cases cp : p = 3
    · subst cp
      exact S_t (by decide) (S_inr (S_some rfl))
    · have hp' : p < 3 := by omega
      refine S_f (nI_ge (b := 3) hp' (by decide)) (S_bn1 ?_)
      refine S_mono (P := fun o => o = (σ', nI (ons (fun p => RX 0 L d c p 3) (p + 1)))) ?_ (fun o ho => ?_)
      · rw [nI_1]
        refine S_lq2 (fun σ2 s v => σ2 = σ' ∧ ∃ q, v = nI q ∧ p < q ∧ q ≤ 3 ∧ s = nI (ons (fun p => RX 0 L d c p 3) p + RX 0 L d c p q)) (fun _ _ v => 3 - v.toNatClampNeg) ?_ fu σ' _ _ (by unfold fu; omega) ⟨rfl, p + 1, rfl, by omega, by omega, by rw [RX_0, Nat.add_zero]⟩
        rintro σ2 s v ⟨rfl, q, rfl, q1, q2, rfl⟩
        unfold f_X5_countAlike_s13
        by_cases cq : q = 3
        · subst cq
          exact S_t (by decide) (S_inr rfl)
        · have hq' : q < 3 := by omega
          refine S_f (nI_ge (b := 3) hq' (by decide)) (S_chk (inb_nI hp' (by decide)) (S_chk (inb_nI hq' (by decide)) ?_))
          rw [ix_nI (show p < 2 ^ 31 by omega), ix_nI (show q < 2 ^ 31 by omega)]
          refine S_b1 (ofTwoC (d := d) h hp' hq') (S_inl ⟨⟨rfl, q + 1, nI_1 q, by omega, by omega, ?_⟩, ?_⟩)
          · dsimp only
            rw [nI_add, RX_s q1, Nat.add_assoc]
          · have := ms3 hq'
            first
              | exact this
              | (rw [ix_nI (show q < 2 ^ 31 by omega)] at this; exact this)
      · subst ho
        exact S_inl ⟨⟨rfl, p + 1, nI_1 p, by omega, rfl⟩, ms3 hp'⟩
  obtain ⟨o, h1, rfl⟩ := key
  exact h1
end AC
