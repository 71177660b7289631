/-! ===== strokes that are unlike ===== -/
/-- which way a part begins in a union -/
def bt (x p : Nat) : Nat := x / 2 ^ p % 2
theorem bt_lt (x p : Nat) : bt x p < 2 := Nat.mod_lt _ (by decide)
theorem bt_eq {x p : Nat} (hx : x < 8) (hp : p < 3) : (nI x >>> (nI p &&& 31)) &&& 1 = nI (bt x p) := by
  rcases (show p = 0 ∨ p = 1 ∨ p = 2 by omega) with rfl | rfl | rfl <;> rcases (show x = 0 ∨ x = 1 ∨ x = 2 ∨ x = 3 ∨ x = 4 ∨ x = 5 ∨ x = 6 ∨ x = 7 by omega) with rfl | rfl | rfl | rfl | rfl | rfl | rfl | rfl <;> decide
theorem ub_eq {σ : Mm} {x p : Nat} (hx : x < 8) (hp : p < 3) : f_X5_unionBowing σ (nI x) (nI p) = some (σ, some (31 + 15 * p + 7 + 4 * bt x p)) := by
  unfold f_X5_unionBowing
  rw [bt_eq hx hp, ix_nI (show p < 2 ^ 31 by omega), chk_t (inb_nI hp (by decide)), chk_t (by rw [kd_part hp]; rfl), E_bn1 (from_eq hp (bt_lt x p))]
  rfl
section AU
variable {σ τ : Mm} {O c : Nat → Nat} {P Q L M d : Nat → Nat → Nat} {u : Nat}
theorem gX1 {p q a b : Nat} : gX 1 L d p q a b = if ons (L p) a = ons (L q) b ∧ L p a = L q b then (if d p a = d q b then 0 else 1) else 0 := by
  unfold gX
  by_cases h : ons (L p) a = ons (L q) b ∧ L p a = L q b
  · rw [if_pos h]
    by_cases e : d p a = d q b
    · rw [if_pos e, if_neg (fun z => z.2.elim (by decide) (fun z => z e))]
    · rw [if_neg e, if_pos ⟨h, Or.inr e⟩]
  · rw [if_neg (fun z => h z.1), if_neg h]
theorem unTwoC (h : Rels σ τ O c P Q L M) {p q f g : Nat} (hp : p < 3) (hq : q < 3) (hf : f < 2) (hg : g < 2) (hd1 : ∀ n, n < c p → σ (31 + 15 * p + 7 + 4 * f + 1) n = nI (d p n) ∧ d p n < 2) (hd2 : ∀ n, n < c q → σ (31 + 15 * q + 7 + 4 * g + 1) n = nI (d q n) ∧ d q n < 2) : f_X5_countUnlikeOfTwo σ (31 + 15 * p) (31 + 15 * p + 7 + 4 * f + 1) (31 + 15 * q) (31 + 15 * q + 7 + 4 * g + 1) = some (σ, nI (GX 1 L d c p q)) := by
  obtain ⟨a1, hc, -⟩ := h.mkC hp
  obtain ⟨b1, hc2, -⟩ := h.mkC hq
  have key : Sat (f_X5_countUnlikeOfTwo σ (31 + 15 * p) (31 + 15 * p + 7 + 4 * f + 1) (31 + 15 * q) (31 + 15 * q + 7 + 4 * g + 1)) (fun o => o = (σ, nI (GX 1 L d c p q))) := by
    unfold f_X5_countUnlikeOfTwo
    refine S_bn1 ?_
    refine S_lq2 (fun σ' s v => σ' = σ ∧ ∃ j, v = nI j ∧ j ≤ c p ∧ s = nI (ons (fun a => ons (gX 1 L d p q a) (c q)) j)) (fun _ _ v => 12 - v.toNatClampNeg) ?_ fu σ 0 0 (by unfold fu; omega) ⟨rfl, 0, rfl, by omega, rfl⟩
    rintro σ' s v ⟨rfl, j, rfl, hj, rfl⟩
    unfold f_X5_countUnlikeOfTwo_s6
    refine S_chk (by rw [kd_part hp]; rfl) ?_
    rw [a1]
    by_cases cj : j = c p
    · subst cj
      exact S_t (nI_le (by omega) (by omega)) (S_inr (S_some rfl))
    · have hj' : j < c p := by omega
      obtain ⟨x1, x2⟩ := hd1 j hj'
      refine S_f (nI_ge hj' (by omega)) (S_bn1 ?_)
      refine S_mono (P := fun o => o = (σ', nI (ons (fun a => ons (gX 1 L d p q a) (c q)) (j + 1)))) ?_ (fun o ho => ?_)
      · refine S_lq2 (fun σ2 s v => σ2 = σ' ∧ ∃ i, v = nI i ∧ i ≤ c q ∧ s = nI (ons (fun a => ons (gX 1 L d p q a) (c q)) j + ons (gX 1 L d p q j) i)) (fun _ _ v => 12 - v.toNatClampNeg) ?_ fu σ' _ 0 (by unfold fu; omega) ⟨rfl, 0, rfl, by omega, rfl⟩
        rintro σ2 s v ⟨rfl, i, rfl, hi, rfl⟩
        unfold f_X5_countUnlikeOfTwo_s18
        refine S_chk (by rw [kd_part hq]; rfl) ?_
        rw [b1]
        by_cases ci : i = c q
        · subst ci
          exact S_t (nI_le (by omega) (by omega)) (S_inr rfl)
        · have hi' : i < c q := by omega
          obtain ⟨y1, y2⟩ := hd2 i hi'
          refine S_f (nI_ge hi' (by omega)) (S_b1 (alikeC h hp hq hj' hi') ?_)
          have e := gX1 (L := L) (d := d) (p := p) (q := q) (a := j) (b := i)
          have zero : gX 1 L d p q j i = 0 → nI (ons (fun a => ons (gX 1 L d p q a) (c q)) j + ons (gX 1 L d p q j) i) = nI (ons (fun a => ons (gX 1 L d p q a) (c q)) j + ons (gX 1 L d p q j) (i + 1)) := fun z => by rw [ons_s, z, Nat.add_zero]
          by_cases ca : ons (L p) j = ons (L q) i ∧ L p j = L q i
          · rw [if_pos ca] at e ⊢
            refine S_f (by decide) (S_chk (inC_b hp hf rfl (by decide) (by decide) (by omega)) (S_chk (inC_b hq hg rfl (by decide) (by decide) (by omega)) ?_))
            by_cases ed : d p j = d q i
            · refine S_t (by rw [ix_nI (by omega), ix_nI (by omega), x1, y1, ed]) (S_inl ⟨⟨rfl, i + 1, nI_1 i, by omega, zero ?_⟩, ms12 (by omega)⟩)
              rw [e, if_pos ed]
            · refine S_f (by rw [ix_nI (by omega), ix_nI (by omega), x1, y1]; exact fun z => ed ((nI_eq (by omega) (by omega)).mp z)) (S_inl ⟨⟨rfl, i + 1, nI_1 i, by omega, ?_⟩, ms12 (by omega)⟩)
              dsimp only
              rw [ons_s, e, if_neg ed, ← Nat.add_assoc, ← nI_1]
          · rw [if_neg ca] at e ⊢
            exact S_t rfl (S_inl ⟨⟨rfl, i + 1, nI_1 i, by omega, zero e⟩, ms12 (by omega)⟩)
      · subst ho
        exact S_inl ⟨⟨rfl, j + 1, nI_1 j, by omega, rfl⟩, ms12 (by omega)⟩
  obtain ⟨o, h1, rfl⟩ := key
  exact h1
theorem unlikeC (h : Rels σ τ O c P Q L M) {x : Nat} (hx : x < 8) (hd : ∀ p, p < 3 → ∀ n, n < c p → σ (31 + 15 * p + 7 + 4 * bt x p + 1) n = nI (d p n) ∧ d p n < 2) : f_X5_countUnlike σ (nI x) = some (σ, nI (TX 1 L d c)) := by
  have key : Sat (f_X5_countUnlike σ (nI x)) (fun o => o = (σ, nI (TX 1 L d c))) := by
    unfold f_X5_countUnlike
    refine S_bn1 ?_
    refine S_lq2 (fun σ' s v => σ' = σ ∧ ∃ p, v = nI p ∧ p ≤ 3 ∧ s = nI (ons (fun p => RX 1 L d c p 3) p)) (fun _ _ v => 3 - v.toNatClampNeg) ?_ fu σ 0 0 (by unfold fu; omega) ⟨rfl, 0, rfl, by omega, rfl⟩
    rintro σ' s v ⟨rfl, p, rfl, hp, rfl⟩
    unfold f_X5_countUnlike_s4
    by_cases cp : p = 3
    · subst cp
      exact S_t (by decide) (S_inr (S_some rfl))
    · have hp' : p < 3 := by omega
      refine S_f (nI_ge (b := 3) hp' (by decide)) (S_bn1 ?_)
      refine S_mono (P := fun o => o = (σ', nI (ons (fun p => RX 1 L d c p 3) (p + 1)))) ?_ (fun o ho => ?_)
      · rw [nI_1]
        refine S_lq2 (fun σ2 s v => σ2 = σ' ∧ ∃ q, v = nI q ∧ p < q ∧ q ≤ 3 ∧ s = nI (ons (fun p => RX 1 L d c p 3) p + RX 1 L d c p q)) (fun _ _ v => 3 - v.toNatClampNeg) ?_ fu σ' _ _ (by unfold fu; omega) ⟨rfl, p + 1, rfl, by omega, by omega, by rw [RX_0, Nat.add_zero]⟩
        rintro σ2 s v ⟨rfl, q, rfl, q1, q2, rfl⟩
        unfold f_X5_countUnlike_s14
        by_cases cq : q = 3
        · subst cq
          exact S_t (by decide) (S_inr rfl)
        · have hq' : q < 3 := by omega
          refine S_f (nI_ge (b := 3) hq' (by decide)) (S_b1 (ub_eq hx hp') (S_on1 (S_chk (by rw [kd_b hp' (bt_lt x p) rfl]; rfl) (S_b1 (ub_eq hx hq') (S_on1 (S_chk (by rw [kd_b hq' (bt_lt x q) rfl]; rfl) (S_chk (inb_nI hp' (by decide)) (S_chk (inb_nI hq' (by decide)) ?_))))))))
          rw [ix_nI (show p < 2 ^ 31 by omega), ix_nI (show q < 2 ^ 31 by omega)]
          refine S_b1 (unTwoC h hp' hq' (bt_lt x p) (bt_lt x q) (hd p hp') (hd q hq')) (S_inl ⟨⟨rfl, q + 1, nI_1 q, by omega, by omega, ?_⟩, ?_⟩)
          · dsimp only
            rw [nI_add, RX_s q1, Nat.add_assoc]
          · have := ms3 hq'
            first
              | exact this
              | (rw [ix_nI (show q < 2 ^ 31 by omega)] at this; exact this)
      · subst ho
        exact S_inl ⟨⟨rfl, p + 1, nI_1 p, by omega, rfl⟩, ms3 hp'⟩
  obtain ⟨o, h1, rfl⟩ := key
  exact h1
/-! ===== the reference counts them ===== -/
theorem al37 (h : Rels σ τ O c P Q L M) {p q j B : Nat} (hu : u < 2) (hd : u = 1 → ∀ p, p < 3 → ∀ n, n < c p → τ 17 (12 * p + n) = nI (d p n) ∧ d p n < 2) (hp : p < 3) (hq : q < 3) (hj : j < c p) : Sat (lq2 (f_X6_alikes_s37 (nI q) (nI p) (nI j) (nI u)) fu τ (nI B) 0) (fun o => o = (τ, nI (B + ons (gX u L d p q j) (c q)))) := by
  obtain ⟨b1, hc2, -⟩ := h.mkM hq
  have hc := (h.mkM hp).2.1
  refine S_lq2 (fun σ2 s v => σ2 = τ ∧ ∃ i, v = nI i ∧ i ≤ c q ∧ s = nI (B + ons (gX u L d p q j) i)) (fun _ _ v => 12 - v.toNatClampNeg) ?_ fu τ _ 0 (by unfold fu; omega) ⟨rfl, 0, rfl, by omega, rfl⟩
  rintro σ2 s v ⟨rfl, i, rfl, hi, rfl⟩
  unfold f_X6_alikes_s37
  refine S_chk (inb_nI hq (by decide)) ?_
  rw [ix_nI (show q < 2 ^ 31 by omega), b1]
  by_cases ci : i = c q
  · subst ci
    exact S_t (nI_le (by omega) (by omega)) (S_inr rfl)
  · have hi' : i < c q := by omega
    refine S_f (nI_ge hi' (by omega)) (S_b1 (alikeM h hp hq hj hi') ?_)
    have fin : ∀ w : Int32, w = nI (gX u L d p q j i) → Sat (if w = 0 then some (.inl (σ2, (nI (B + ons (gX u L d p q j) i) + 0), (nI i + 1))) else some (.inl (σ2, (nI (B + ons (gX u L d p q j) i) + 1), (nI i + 1)))) (Sum.elim (fun a : Mm × Int32 × Int32 => (a.1 = σ2 ∧ ∃ i, a.2.2 = nI i ∧ i ≤ c q ∧ a.2.1 = nI (B + ons (gX u L d p q j) i)) ∧ 12 - a.2.2.toNatClampNeg < 12 - (nI i).toNatClampNeg) (fun o : Mm × Int32 => o = (σ2, nI (B + ons (gX u L d p q j) (c q))))) := by
      intro w hw
      have gl := gX_le u L d p q j i
      by_cases g0 : gX u L d p q j i = 0
      · refine S_t (by rw [hw, g0]; rfl) (S_inl ⟨⟨rfl, i + 1, nI_1 i, by omega, ?_⟩, ms12 (by omega)⟩)
        dsimp only
        rw [ons_s, g0, Nat.add_zero]
        exact Int32.add_zero _
      · have g1 : gX u L d p q j i = 1 := by omega
        refine S_f (by rw [hw, g1]; decide) (S_inl ⟨⟨rfl, i + 1, nI_1 i, by omega, ?_⟩, ms12 (by omega)⟩)
        dsimp only
        rw [ons_s, g1, ← Nat.add_assoc, ← nI_1]
    by_cases ca : ons (L p) j = ons (L q) i ∧ L p j = L q i
    · rw [if_pos ca]
      rcases (show u = 0 ∨ u = 1 by omega) with rfl | rfl
      · refine S_bn1 (S_f (by decide) (S_t rfl (S_some (fin 1 ?_))))
        rw [gX0, if_pos ca]
        rfl
      · obtain ⟨x1, x2⟩ := hd rfl p hp j hj
        obtain ⟨y1, y2⟩ := hd rfl q hq i hi'
        refine S_bn1 (S_f (by decide) (S_f (by decide) ?_))
        rw [ix12 hp (show j < 12 by omega), ix12 hq (show i < 12 by omega)]
        refine S_chk (in12 hp (by omega)) (S_chk (in12 hq (by omega)) ?_)
        by_cases ed : d p j = d q i
        · refine S_t (by rw [ix_nI (by omega), ix_nI (by omega), x1, y1, ed]) (S_some (fin 0 ?_))
          rw [gX1, if_pos ca, if_pos ed]
          rfl
        · refine S_f (by rw [ix_nI (by omega), ix_nI (by omega), x1, y1]; exact fun z => ed ((nI_eq (by omega) (by omega)).mp z)) (S_some (fin 1 ?_))
          rw [gX1, if_pos ca, if_neg ed]
          rfl
    · rw [if_neg ca]
      refine S_bn1 (S_t rfl (S_some (fin 0 ?_)))
      unfold gX
      rw [if_neg (fun z => ca z.1)]
      rfl
theorem al23 (h : Rels σ τ O c P Q L M) {p q B : Nat} (hu : u < 2) (hd : u = 1 → ∀ p, p < 3 → ∀ n, n < c p → τ 17 (12 * p + n) = nI (d p n) ∧ d p n < 2) (hp : p < 3) (hq : q < 3) : Sat (lq2 (f_X6_alikes_s23 (nI p) (nI q) (nI u)) fu τ (nI B) 0) (fun o => o = (τ, nI (B + GX u L d c p q))) := by
  obtain ⟨a1, hc, -⟩ := h.mkM hp
  refine S_lq2 (fun σ2 s v => σ2 = τ ∧ ∃ j, v = nI j ∧ j ≤ c p ∧ s = nI (B + ons (fun a => ons (gX u L d p q a) (c q)) j)) (fun _ _ v => 12 - v.toNatClampNeg) ?_ fu τ _ 0 (by unfold fu; omega) ⟨rfl, 0, rfl, by omega, rfl⟩
  rintro σ2 s v ⟨rfl, j, rfl, hj, rfl⟩
  unfold f_X6_alikes_s23
  refine S_chk (inb_nI hp (by decide)) ?_
  rw [ix_nI (show p < 2 ^ 31 by omega), a1]
  by_cases cj : j = c p
  · subst cj
    exact S_t (nI_le (by omega) (by omega)) (S_inr rfl)
  · have hj' : j < c p := by omega
    refine S_f (nI_ge hj' (by omega)) (S_bn1 (S_mono (al37 h hu hd hp hq hj') (fun o ho => ?_)))
    subst ho
    refine S_inl ⟨⟨rfl, j + 1, nI_1 j, by omega, ?_⟩, ms12 (by omega)⟩
    dsimp only
    rw [ons_s, Nat.add_assoc]
theorem alikesM (h : Rels σ τ O c P Q L M) (hu : u < 2) (hd : u = 1 → ∀ p, p < 3 → ∀ n, n < c p → τ 17 (12 * p + n) = nI (d p n) ∧ d p n < 2) : f_X6_alikes τ (nI u) = some (τ, nI (TX u L d c)) := by
  have key : Sat (f_X6_alikes τ (nI u)) (fun o => o = (τ, nI (TX u L d c))) := by
    unfold f_X6_alikes
    refine S_bn1 ?_
    refine S_lq2 (fun σ' s v => σ' = τ ∧ ∃ p, v = nI p ∧ p ≤ 3 ∧ s = nI (ons (fun p => RX u L d c p 3) p)) (fun _ _ v => 3 - v.toNatClampNeg) ?_ fu τ 0 0 (by unfold fu; omega) ⟨rfl, 0, rfl, by omega, rfl⟩
    rintro σ' s v ⟨rfl, p, rfl, hp, rfl⟩
    unfold f_X6_alikes_s4
    by_cases cp : p = 3
    · subst cp
      exact S_t (by decide) (S_inr (S_some rfl))
    · have hp' : p < 3 := by omega
      refine S_f (nI_ge (b := 3) hp' (by decide)) (S_bn1 ?_)
      refine S_mono (P := fun o => o = (σ', nI (ons (fun p => RX u L d c p 3) (p + 1)))) ?_ (fun o ho => ?_)
      · rw [nI_1]
        refine S_lq2 (fun σ2 s v => σ2 = σ' ∧ ∃ q, v = nI q ∧ p < q ∧ q ≤ 3 ∧ s = nI (ons (fun p => RX u L d c p 3) p + RX u L d c p q)) (fun _ _ v => 3 - v.toNatClampNeg) ?_ fu σ' _ _ (by unfold fu; omega) ⟨rfl, p + 1, rfl, by omega, by omega, by rw [RX_0, Nat.add_zero]⟩
        rintro σ2 s v ⟨rfl, q, rfl, q1, q2, rfl⟩
        unfold f_X6_alikes_s14
        by_cases cq : q = 3
        · subst cq
          exact S_t (by decide) (S_inr rfl)
        · have hq' : q < 3 := by omega
          refine S_f (nI_ge (b := 3) hq' (by decide)) (S_bn1 (S_mono (al23 h hu hd hp' hq') (fun o ho => ?_)))
          subst ho
          refine S_inl ⟨⟨rfl, q + 1, nI_1 q, by omega, by omega, ?_⟩, ms3 hq'⟩
          dsimp only
          rw [RX_s q1, Nat.add_assoc]
      · subst ho
        exact S_inl ⟨⟨rfl, p + 1, nI_1 p, by omega, rfl⟩, ms3 hp'⟩
  obtain ⟨o, h1, rfl⟩ := key
  exact h1
end AU
