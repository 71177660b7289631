/-! ===== shifts, and parts without a fingering ===== -/
def shf (k : Nat → Nat) (n : Nat) : Nat := if n = 0 then 0 else if hdK (k (n - 1)) = 0 ∨ hdK (k n) = 0 ∨ hdK (k (n - 1)) = hdK (k n) then 0 else 1
theorem shC {σ : Mm} {p c : Nat} {k : Nat → Nat} (hp : p < 3) (hc : c ≤ 12) (h0 : σ (31 + 15 * p) 0 = nI c) (hk : ∀ n, n < c → σ (31 + 15 * p + 6) n = nI (k n) ∧ k n < 100000) : Sat (lq2 (f_X5_shifts_s28 (31 + 15 * p)) fu σ 0 1) (fun o => o = (σ, nI (ons (shf k) c))) := by
  refine S_lq2 (fun σ' s v => σ' = σ ∧ ∃ j, v = nI j ∧ 1 ≤ j ∧ (j ≤ c ∨ j = 1) ∧ s = nI (ons (shf k) j)) (fun _ _ v => 12 - v.toNatClampNeg) ?_ fu σ 0 1 (by unfold fu; omega) ⟨rfl, 1, rfl, by omega, by omega, rfl⟩
  rintro σ' s v ⟨rfl, j, rfl, j1, j2, rfl⟩
  unfold f_X5_shifts_s28
  refine S_chk (by rw [kd_part hp]; rfl) ?_
  rw [h0]
  by_cases cj : c ≤ j
  · refine S_t (nI_le cj (by omega)) (S_inr ?_)
    by_cases e : j = c
    · rw [e]
    · have e1 : c = 0 := by omega
      have e2 : j = 1 := by omega
      rw [e1, e2]
      rfl
  · obtain ⟨x1, x2⟩ := hk j (by omega)
    obtain ⟨y1, y2⟩ := hk (j - 1) (by omega)
    refine S_f (nI_ge (show j < c by omega) (by omega)) ?_
    rw [nI_sub1 (show 0 < j by omega), ix_nI (show j - 1 < 2 ^ 31 by omega), ix_nI (show j < 2 ^ 31 by omega), x1, y1]
    refine S_chk (inC_p hp (by decide) (by decide) (by omega)) (S_chk (inC_p hp (by decide) (by decide) (by omega)) (S_b1 (shf_eq y2 x2) ?_))
    have ms1 : 12 - (nI j + 1).toNatClampNeg < 12 - j := by
      rw [nI_1, ix_nI (show j + 1 < 2 ^ 31 by omega)]
      omega
    by_cases q : hdK (k (j - 1)) = 0 ∨ hdK (k j) = 0 ∨ hdK (k (j - 1)) = hdK (k j)
    · rw [show shv (k (j - 1)) (k j) = 0 from if_pos q]
      refine S_t (show nI 0 = 0 from rfl) (S_inl ⟨⟨rfl, j + 1, nI_1 j, by omega, by omega, ?_⟩, ms1⟩)
      rw [ons_s]
      unfold shf
      rw [if_neg (by omega), if_pos q]
      rfl
    · refine S_f (shv_ne q) (S_inl ⟨⟨rfl, j + 1, nI_1 j, by omega, by omega, ?_⟩, ms1⟩)
      dsimp only
      rw [ons_s]
      unfold shf
      rw [if_neg (by omega), if_neg q, ← nI_1]
theorem shM {τ : Mm} {p c : Nat} {k : Nat → Nat} (hp : p < 3) (hc : c ≤ 12) (h0 : τ 2 p = nI c) (hk : ∀ n, n < c → (∃ x, τ 15 n = nI x ∧ x < 6000 ∧ τ 8 x = nI (k n / 10)) ∧ k n < 100000) : Sat (lq2 (f_X6_shifts_s24 (nI p)) fu τ 0 1) (fun o => o = (τ, nI (ons (shf k) c))) := by
  refine S_lq2 (fun σ' s v => σ' = τ ∧ ∃ j, v = nI j ∧ 1 ≤ j ∧ (j ≤ c ∨ j = 1) ∧ s = nI (ons (shf k) j)) (fun _ _ v => 12 - v.toNatClampNeg) ?_ fu τ 0 1 (by unfold fu; omega) ⟨rfl, 1, rfl, by omega, by omega, rfl⟩
  rintro σ' s v ⟨rfl, j, rfl, j1, j2, rfl⟩
  unfold f_X6_shifts_s24
  refine S_chk (inb_nI hp (by decide)) ?_
  rw [ix_nI (show p < 2 ^ 31 by omega), h0]
  by_cases cj : c ≤ j
  · refine S_t (nI_le cj (by omega)) (S_inr ?_)
    by_cases e : j = c
    · rw [e]
    · have e1 : c = 0 := by omega
      have e2 : j = 1 := by omega
      rw [e1, e2]
      rfl
  · obtain ⟨⟨x, x1, x2, x3⟩, x4⟩ := hk j (by omega)
    obtain ⟨⟨y, y1, y2, y3⟩, y4⟩ := hk (j - 1) (by omega)
    refine S_f (nI_ge (show j < c by omega) (by omega)) ?_
    rw [nI_sub1 (show 0 < j by omega), ix_nI (show j - 1 < 2 ^ 31 by omega), ix_nI (show j < 2 ^ 31 by omega), y1, ix_nI (show y < 2 ^ 31 by omega), y3]
    refine S_chk (inb_nI (by omega) (by decide)) (S_chk (inb_nI y2 (by decide)) (S_b1 (handOf_eq y4) (S_chk (inb_nI (by omega) (by decide)) ?_)))
    rw [x1, ix_nI (show x < 2 ^ 31 by omega), x3]
    refine S_chk (inb_nI x2 (by decide)) (S_b1 (handOf_eq x4) ?_)
    have ms1 : 12 - (nI j + 1).toNatClampNeg < 12 - j := by
      rw [nI_1, ix_nI (show j + 1 < 2 ^ 31 by omega)]
      omega
    have ba : hdK (k (j - 1)) < 100 := by unfold hdK; omega
    have bb : hdK (k j) < 100 := by unfold hdK; omega
    have zero : (hdK (k (j - 1)) = 0 ∨ hdK (k j) = 0 ∨ hdK (k (j - 1)) = hdK (k j)) → nI (ons (shf k) j) + 0 = nI (ons (shf k) (j + 1)) := by
      intro q
      rw [ons_s]
      unfold shf
      rw [if_neg (by omega), if_pos q]
      exact Int32.add_zero _
    by_cases q1 : hdK (k (j - 1)) = hdK (k j)
    · exact S_t (by rw [q1]) (S_inl ⟨⟨rfl, j + 1, nI_1 j, by omega, by omega, zero (Or.inr (Or.inr q1))⟩, ms1⟩)
    refine S_f (fun q => q1 ((nI_eq (by omega) (by omega)).mp q)) ?_
    by_cases q2 : hdK (k (j - 1)) = 0
    · exact S_t (by rw [q2]; decide) (S_inl ⟨⟨rfl, j + 1, nI_1 j, by omega, by omega, zero (Or.inl q2)⟩, ms1⟩)
    refine S_f (nI_ge (a := 0) (by omega) (by omega)) ?_
    by_cases q3 : hdK (k j) = 0
    · exact S_t (by rw [q3]; decide) (S_inl ⟨⟨rfl, j + 1, nI_1 j, by omega, by omega, zero (Or.inr (Or.inl q3))⟩, ms1⟩)
    refine S_f (nI_ge (a := 0) (by omega) (by omega)) (S_inl ⟨⟨rfl, j + 1, nI_1 j, by omega, by omega, ?_⟩, ms1⟩)
    dsimp only
    rw [ons_s]
    unfold shf
    rw [if_neg (by omega), if_neg (by omega), ← nI_1]
theorem sim_shifts (σ τ : Mm) (a : Int32) (h : Rel σ τ) : Two (f_X5_shifts σ a) (f_X6_shifts τ a) := by
  unfold f_X5_shifts f_X6_shifts
  rcases rng a 0 2 (by decide) (by decide) with ⟨p, -, hp, rfl⟩ | ha
  · have hp' : p < 3 := by omega
    obtain ⟨O, c, P, Q, L, M, h'⟩ := h
    apply two
    refine S_b1 (pa_yes hp') (S_on1 (S_bn1 (S_mono (hasC hp' h') (fun o ho => ?_))))
    obtain ⟨o1, o2, o3, o4, o5⟩ := ho
    by_cases cf : FgCost O (P p) (Q p) (M p) (c p) < 1000000
    · have kk := fun n hn => (chK_ok (KN_lt O (P p) (Q p)) cf n hn).1
      refine S_f (by rw [o1 cf]; decide) (S_bn1 (S_mono (shC (k := chK (KN O (P p) (Q p)) (M p) (c p)) hp' (h' p hp').1.2.2.1 (o5 p hp').1.2.1 (fun n hn => ⟨o4 cf n hn, kk n hn⟩)) (fun o' ho' => S_some (S_b1 (ip_yes hp') (S_f (by decide) (S_bn1 (S_mono (hasM hp' h') (fun u hu => ?_))))))))
      obtain ⟨u1, u2, u3⟩ := hu
      obtain ⟨v1, v2, v3⟩ := u1 cf
      subst ho'
      refine S_f (by rw [v1]; decide) (S_bn1 (S_mono (shM (k := chK (KN O (P p) (Q p)) (M p) (c p)) hp' (h' p hp').1.2.2.1 (by rw [u3 2 (by omega) (by omega)]; exact (h' p hp').2.2.2.1.2.1) (fun n hn => ⟨?_, kk n hn⟩)) (fun u' hu' => S_some ?_)))
      · obtain ⟨x, w1, w2, w3, w4⟩ := v3 n hn
        exact ⟨x, w1, w2, w3⟩
      · subst hu'
        exact ⟨rfl, (o5.fg u3).rel⟩
    · refine S_t (o2 cf) (S_some (S_b1 (ip_yes hp') (S_f (by decide) (S_bn1 (S_mono (hasM hp' h') (fun u hu => ?_))))))
      obtain ⟨u1, u2, u3⟩ := hu
      exact S_t (u2 cf) (S_some ⟨rfl, (o5.fg u3).rel⟩)
  · exact two (S_b1 (pa_no ha) (S_on0 (S_some (S_b1 (ip_no ha) (S_t rfl (S_some ⟨rfl, h⟩))))))
section FWo
variable {σ τ : Mm} {O c : Nat → Nat} {P Q L M : Nat → Nat → Nat}
def wo (O c : Nat → Nat) (P Q M : Nat → Nat → Nat) (p : Nat) : Nat := if FgCost O (P p) (Q p) (M p) (c p) < 1000000 then 0 else 1
theorem woC (h : Rels σ τ O c P Q L M) : Sat (f_X5_countWithoutFingering σ) (fun o => o.2 = nI (ons (wo O c P Q M) 3) ∧ Rels o.1 τ O c P Q L M) := by
  unfold f_X5_countWithoutFingering
  refine S_bn1 ?_
  refine S_lq2 (fun σ' s v => ∃ j, v = nI j ∧ j ≤ 3 ∧ s = nI (ons (wo O c P Q M) j) ∧ Rels σ' τ O c P Q L M) (fun _ _ v => 3 - v.toNatClampNeg) ?_ fu σ 0 0 (by unfold fu; omega) ⟨0, rfl, by omega, rfl, h⟩
  rintro σ' s v ⟨j, rfl, hj, rfl, g⟩
  unfold f_X5_countWithoutFingering_s4
  by_cases cj : j = 3
  · subst cj
    exact S_t (by decide) (S_inr (S_some ⟨rfl, g⟩))
  · have hj' : j < 3 := by omega
    have ms1 : 3 - (nI j + 1).toNatClampNeg < 3 - (nI j).toNatClampNeg := by
      rw [nI_1, ix_nI (show j + 1 < 2 ^ 31 by omega), ix_nI (show j < 2 ^ 31 by omega)]
      omega
    refine S_f (nI_ge (b := 3) hj' (by decide)) (S_chk (inb_nI hj' (by decide)) (S_bn1 ?_))
    rw [show 31 + 15 * (nI j).toNatClampNeg = 31 + 15 * j by rw [ix_nI (by omega)]]
    refine S_mono (hasC hj' g) (fun o ho => ?_)
    obtain ⟨o1, o2, o3, o4, o5⟩ := ho
    by_cases cf : FgCost O (P j) (Q j) (M j) (c j) < 1000000
    · refine S_f (by rw [o1 cf]; decide) (S_inl ⟨⟨j + 1, nI_1 j, by omega, ?_, o5⟩, ms1⟩)
      rw [ons_s]
      unfold wo
      rw [if_pos cf]
      rfl
    · refine S_t (o2 cf) (S_inl ⟨⟨j + 1, nI_1 j, by omega, ?_, o5⟩, ms1⟩)
      dsimp only
      rw [ons_s]
      unfold wo
      rw [if_neg cf, ← nI_1]
theorem woM (h : Rels σ τ O c P Q L M) : Sat (f_X6_without τ) (fun o => o.2 = nI (ons (wo O c P Q M) 3) ∧ ∀ k, 1 ≤ k → k < 7 → o.1 k = τ k) := by
  unfold f_X6_without
  refine S_bn1 ?_
  refine S_lq2 (fun τ' s v => ∃ j, v = nI j ∧ j ≤ 3 ∧ s = nI (ons (wo O c P Q M) j) ∧ ∀ k, 1 ≤ k → k < 7 → τ' k = τ k) (fun _ _ v => 3 - v.toNatClampNeg) ?_ fu τ 0 0 (by unfold fu; omega) ⟨0, rfl, by omega, rfl, fun _ _ _ => rfl⟩
  rintro τ' s v ⟨j, rfl, hj, rfl, g⟩
  unfold f_X6_without_s4
  by_cases cj : j = 3
  · subst cj
    exact S_t (by decide) (S_inr (S_some ⟨rfl, g⟩))
  · have hj' : j < 3 := by omega
    have ms1 : 3 - (nI j + 1).toNatClampNeg < 3 - (nI j).toNatClampNeg := by
      rw [nI_1, ix_nI (show j + 1 < 2 ^ 31 by omega), ix_nI (show j < 2 ^ 31 by omega)]
      omega
    refine S_f (nI_ge (b := 3) hj' (by decide)) (S_bn1 ?_)
    refine S_mono (hasM hj' (h.fg g)) (fun o ho => ?_)
    obtain ⟨u1, u2, u3⟩ := ho
    have fr : ∀ k, 1 ≤ k → k < 7 → o.1 k = τ k := fun k k1 k2 => by rw [u3 k k1 k2]; exact g k k1 k2
    by_cases cf : FgCost O (P j) (Q j) (M j) (c j) < 1000000
    · refine S_f (by rw [(u1 cf).1]; decide) (S_inl ⟨⟨j + 1, nI_1 j, by omega, ?_, fr⟩, ms1⟩)
      dsimp only
      rw [ons_s]
      unfold wo
      rw [if_pos cf]
      exact Int32.add_zero _
    · refine S_t (u2 cf) (S_inl ⟨⟨j + 1, nI_1 j, by omega, ?_, fr⟩, ms1⟩)
      dsimp only
      rw [ons_s]
      unfold wo
      rw [if_neg cf, ← nI_1]
end FWo
