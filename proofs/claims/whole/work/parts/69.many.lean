/-! ===== many ===== -/
def dbN (Q : Nat → Nat) (n : Nat) : Nat := if Q n = 0 then 0 else 1
section MN
variable {σ τ : Mm} {O c : Nat → Nat} {P Q L M : Nat → Nat → Nat}
theorem dblC {p : Nat} (h : Rels σ τ O c P Q L M) (hp : p < 3) : f_X3_countDoubles σ (31 + 15 * p) = some (σ, nI (ons (dbN (Q p)) (c p))) := by
  obtain ⟨⟨a0, a1, a2, a3⟩, -⟩ := h p hp
  have key : Sat (f_X3_countDoubles σ (31 + 15 * p)) (fun o => o = (σ, nI (ons (dbN (Q p)) (c p)))) := by
    unfold f_X3_countDoubles
    refine S_bn1 ?_
    refine S_lq2 (fun σ' s v => σ' = σ ∧ ∃ j, v = nI j ∧ j ≤ c p ∧ s = nI (ons (dbN (Q p)) j)) (fun _ _ v => 12 - v.toNatClampNeg) ?_ fu σ 0 0 (by unfold fu; omega) ⟨rfl, 0, rfl, by omega, rfl⟩
    rintro σ' s v ⟨rfl, j, rfl, j2, rfl⟩
    unfold f_X3_countDoubles_s4
    refine S_chk (by rw [kd_part hp]; rfl) ?_
    rw [a1]
    by_cases cj : j = c p
    · subst cj
      exact S_t (nI_le (by omega) (by omega)) (S_inr (S_some rfl))
    · obtain ⟨-, -, z1, z2, -⟩ := a3 j (by omega)
      refine S_f (nI_ge (show j < c p by omega) (by omega)) (S_b1 (dbl_eq hp (by omega) z1 z2) ?_)
      have ms1 := ms12 (j := j) (by omega)
      by_cases c2 : Q p j = 0
      · rw [if_pos c2]
        refine S_t rfl (S_inl ⟨⟨rfl, j + 1, nI_1 j, by omega, ?_⟩, ms1⟩)
        rw [ons_s]
        unfold dbN
        rw [if_pos c2]
        rfl
      · rw [if_neg c2]
        refine S_f (by decide) (S_inl ⟨⟨rfl, j + 1, nI_1 j, by omega, ?_⟩, ms1⟩)
        dsimp only
        rw [ons_s]
        unfold dbN
        rw [if_neg c2, ← nI_1]
  obtain ⟨o, h1, rfl⟩ := key
  exact h1
theorem allDblC (h : Rels σ τ O c P Q L M) : f_X5_countDoubles σ = some (σ, nI (ons (fun p => ons (dbN (Q p)) (c p)) 3)) := by
  have key : Sat (f_X5_countDoubles σ) (fun o => o = (σ, nI (ons (fun p => ons (dbN (Q p)) (c p)) 3))) := by
    unfold f_X5_countDoubles
    refine S_bn1 ?_
    refine S_lq2 (fun σ' s v => σ' = σ ∧ ∃ j, v = nI j ∧ j ≤ 3 ∧ s = nI (ons (fun p => ons (dbN (Q p)) (c p)) j)) (fun _ _ v => 3 - v.toNatClampNeg) ?_ fu σ 0 0 (by unfold fu; omega) ⟨rfl, 0, rfl, by omega, rfl⟩
    rintro σ' s v ⟨rfl, j, rfl, hj, rfl⟩
    unfold f_X5_countDoubles_s4
    by_cases cj : j = 3
    · subst cj
      exact S_t (by decide) (S_inr (S_some rfl))
    · have hj' : j < 3 := by omega
      have ms := ms3 hj'
      refine S_f (nI_ge (b := 3) hj' (by decide)) (S_chk (inb_nI hj' (by decide)) ?_)
      rw [ix_nI (show j < 2 ^ 31 by omega)] at ms ⊢
      refine S_chk (by rw [kd_part hj']; rfl) (S_b1 (dblC h hj') (S_inl ⟨⟨rfl, j + 1, nI_1 j, by omega, ?_⟩, ms⟩))
      dsimp only
      rw [nI_add, ons_s]
  obtain ⟨o, h1, rfl⟩ := key
  exact h1
theorem allSlurC (h : Rels σ τ O c P Q L M) : f_X5_countSlurred σ = some (σ, nI (ons (fun p => ons (slN (M p)) (c p)) 3)) := by
  have key : Sat (f_X5_countSlurred σ) (fun o => o = (σ, nI (ons (fun p => ons (slN (M p)) (c p)) 3))) := by
    unfold f_X5_countSlurred
    refine S_bn1 ?_
    refine S_lq2 (fun σ' s v => σ' = σ ∧ ∃ j, v = nI j ∧ j ≤ 3 ∧ s = nI (ons (fun p => ons (slN (M p)) (c p)) j)) (fun _ _ v => 3 - v.toNatClampNeg) ?_ fu σ 0 0 (by unfold fu; omega) ⟨rfl, 0, rfl, by omega, rfl⟩
    rintro σ' s v ⟨rfl, j, rfl, hj, rfl⟩
    unfold f_X5_countSlurred_s4
    by_cases cj : j = 3
    · subst cj
      exact S_t (by decide) (S_inr (S_some rfl))
    · have hj' : j < 3 := by omega
      have ms := ms3 hj'
      refine S_f (nI_ge (b := 3) hj' (by decide)) (S_chk (inb_nI hj' (by decide)) ?_)
      rw [ix_nI (show j < 2 ^ 31 by omega)] at ms ⊢
      refine S_chk (by rw [kd_part hj']; rfl) (S_b1 (slurC hj' (h.mkC hj')) (S_inl ⟨⟨rfl, j + 1, nI_1 j, by omega, ?_⟩, ms⟩))
      dsimp only
      rw [nI_add, ons_s]
  obtain ⟨o, h1, rfl⟩ := key
  exact h1
/-- what the reference counts: slurs, or double stops -/
def ntN (u : Nat) (Q M : Nat → Nat → Nat) (p : Nat) : Nat → Nat := if u = 0 then slN (M p) else dbN (Q p)
theorem thatM {u : Nat} (hu : u < 2) (h : Rels σ τ O c P Q L M) : f_X6_notesThat τ (nI u) = some (τ, nI (ons (fun p => ons (ntN u Q M p) (c p)) 3)) := by
  have key : Sat (f_X6_notesThat τ (nI u)) (fun o => o = (τ, nI (ons (fun p => ons (ntN u Q M p) (c p)) 3))) := by
    unfold f_X6_notesThat
    refine S_bn1 ?_
    refine S_lq2 (fun τ' s v => τ' = τ ∧ ∃ p, v = nI p ∧ p ≤ 3 ∧ s = nI (ons (fun p => ons (ntN u Q M p) (c p)) p)) (fun _ _ v => 3 - v.toNatClampNeg) ?_ fu τ 0 0 (by unfold fu; omega) ⟨rfl, 0, rfl, by omega, rfl⟩
    rintro τ' s v ⟨rfl, p, rfl, hp, rfl⟩
    unfold f_X6_notesThat_s4
    by_cases cp : p = 3
    · subst cp
      exact S_t (by decide) (S_inr (S_some rfl))
    · have hp' : p < 3 := by omega
      obtain ⟨-, -, -, ⟨e0, e1, e2, e3⟩, -⟩ := h p hp'
      refine S_f (nI_ge (b := 3) hp' (by decide)) (S_bn1 ?_)
      refine S_mono (P := fun o => o = (τ', nI (ons (fun p => ons (ntN u Q M p) (c p)) (p + 1)))) ?_ (fun o ho => ?_)
      · generalize hB : ons (fun p => ons (ntN u Q M p) (c p)) p = B
        have eB : ons (fun p => ons (ntN u Q M p) (c p)) (p + 1) = B + ons (ntN u Q M p) (c p) := by rw [ons_s, hB]
        rw [eB]
        refine S_lq2 (fun τ2 s v => τ2 = τ' ∧ ∃ j, v = nI j ∧ j ≤ c p ∧ s = nI (B + ons (ntN u Q M p) j)) (fun _ _ v => 12 - v.toNatClampNeg) ?_ fu τ' _ 0 (by unfold fu; omega) ⟨rfl, 0, rfl, by omega, rfl⟩
        rintro τ2 s v ⟨rfl, j, rfl, hj, rfl⟩
        unfold f_X6_notesThat_s12
        refine S_chk (inb_nI hp' (by decide)) ?_
        rw [ix_nI (show p < 2 ^ 31 by omega), e1]
        by_cases cj : j = c p
        · subst cj
          exact S_t (nI_le (by omega) (by omega)) (S_inr rfl)
        · have hj' : j < c p := by omega
          have hj12 : j < 12 := by omega
          obtain ⟨y1, y2, y3, y4, y5, y6⟩ := e3 j hj'
          refine S_f (nI_ge hj' (by omega)) (S_bn1 ?_)
          have nl : ntN u Q M p j ≤ 1 := by
            unfold ntN
            split
            · show slN (M p) j ≤ 1
              unfold slN
              split <;> omega
            · show dbN (Q p) j ≤ 1
              unfold dbN
              split <;> omega
          have val : Sat (if nI u = 0 then bn1 (f_X6_is τ2 (nI p) (nI j) 2) (fun σ10 r10 => some (σ10, r10)) else chk (inb ((12 * nI p) + nI j) 36) ((if (τ2 4 ((12 * nI p) + nI j).toNatClampNeg) < 0 then some (τ2, 0) else some (τ2, 1)))) (fun o => o = (τ2, nI (ntN u Q M p j))) := by
            unfold ntN
            rcases (show u = 0 ∨ u = 1 by omega) with rfl | rfl
            · rw [if_pos (show 0 = 0 from rfl)]
              refine S_t rfl (S_b1 (is_eq (b := 2) hp' hj12 y5 y6 (by decide)) (S_some ?_))
              unfold slN
              by_cases c2 : M p j &&& 2 = 0
              · rw [if_pos c2, if_pos c2]
                rfl
              · rw [if_neg c2, if_neg c2]
                rfl
            · rw [if_neg (show ¬ 1 = 0 by decide), ix12 hp' hj12, ix_nI (show 12 * p + j < 2 ^ 31 by omega), y3]
              refine S_f (by decide) (S_chk (in12 hp' hj12) ?_)
              unfold dbN qI
              by_cases c2 : Q p j = 0
              · refine S_t (by rw [if_pos c2]; decide) (S_some ?_)
                rw [if_pos c2]
                rfl
              · refine S_f (by rw [if_neg c2]; exact nI_pos (by omega)) (S_some ?_)
                rw [if_neg c2]
                rfl
          refine S_mono val (fun o ho => ?_)
          subst ho
          dsimp only
          have ms := ms12 hj12
          by_cases g0 : ntN u Q M p j = 0
          · refine S_t (by rw [g0]; rfl) (S_inl ⟨⟨rfl, j + 1, nI_1 j, by omega, ?_⟩, ms⟩)
            dsimp only
            rw [ons_s, g0, Nat.add_zero]
            exact Int32.add_zero _
          · have g1 : ntN u Q M p j = 1 := by omega
            refine S_f (by rw [g1]; decide) (S_inl ⟨⟨rfl, j + 1, nI_1 j, by omega, ?_⟩, ms⟩)
            dsimp only
            rw [ons_s, g1, ← Nat.add_assoc, ← nI_1]
      · subst ho
        exact S_inl ⟨⟨rfl, p + 1, nI_1 p, by omega, rfl⟩, ms3 hp'⟩
  obtain ⟨o, h1, rfl⟩ := key
  exact h1
end MN
theorem sim_many (σ τ : Mm) (m : Int32) (h : Rel σ τ) : Two (f_X5_many σ m) (f_X6_many τ m) := by
  obtain ⟨O, c, P, Q, L, M, h'⟩ := id h
  have h9 : Rels σ τ O c P Q L M := h'
  unfold f_X5_many f_X6_many
  apply two
  have cnt : ∀ p, p < 3 → ∀ x : Int32, x = nI p → Sat (chk (inb x 3) (chk (kdC (31 + 15 * x.toNatClampNeg) == 2) (some (σ, (σ ((31 + 15 * x.toNatClampNeg)) 0))))) (fun o => o = (σ, nI (c p))) ∧ Sat (chk (inb x 3) (some (τ, (τ 2 x.toNatClampNeg)))) (fun o => o = (τ, nI (c p))) := by
    rintro p hp x rfl
    rw [ix_nI (show p < 2 ^ 31 by omega), (h9.mkC hp).1, (h9.mkM hp).1]
    exact ⟨S_chk (inb_nI hp (by decide)) (S_chk (by rw [kd_part hp]; rfl) (S_some rfl)), S_chk (inb_nI hp (by decide)) (S_some rfl)⟩
  by_cases c0 : m = 0
  · refine S_t c0 (S_mono (cnt 0 (by decide) m c0).1 (fun o ho => S_t c0 (S_mono (cnt 0 (by decide) m c0).2 (fun o' ho' => ?_))))
    subst ho ho'
    exact ⟨rfl, h⟩
  refine S_f c0 ?_
  by_cases c1 : m = 1
  · refine S_t c1 (S_mono (cnt 1 (by decide) m c1).1 (fun o ho => S_f c0 (S_t c1 (S_mono (cnt 1 (by decide) m c1).2 (fun o' ho' => ?_)))))
    subst ho ho'
    exact ⟨rfl, h⟩
  refine S_f c1 ?_
  by_cases c2 : m = 2
  · refine S_t c2 (S_mono (cnt 2 (by decide) m c2).1 (fun o ho => S_f c0 (S_f c1 (S_t c2 (S_mono (cnt 2 (by decide) m c2).2 (fun o' ho' => ?_))))))
    subst ho ho'
    exact ⟨rfl, h⟩
  refine S_f c2 ?_
  by_cases c3 : m = 3
  · exact S_t c3 (S_b1 (allAlikeC (d := M) h9) (S_some (S_f c0 (S_f c1 (S_f c2 (S_t c3 (S_b1 (alikesM (u := 0) (d := M) h9 (by decide) (fun q => absurd q (by decide))) (S_some ⟨rfl, h⟩))))))))
  refine S_f c3 ?_
  by_cases c4 : m = 4
  · exact S_t c4 (S_b1 (allDblC h9) (S_some (S_f c0 (S_f c1 (S_f c2 (S_f c3 (S_t c4 (S_b1 (thatM (u := 1) (by decide) h9) (S_some ⟨rfl, h⟩)))))))))
  refine S_f c4 ?_
  by_cases c5 : m = 5
  · exact S_t c5 (S_b1 (allSlurC h9) (S_some (S_f c0 (S_f c1 (S_f c2 (S_f c3 (S_f c4 (S_t c5 (S_b1 (thatM (u := 0) (by decide) h9) (S_some ⟨rfl, h⟩))))))))))
  refine S_f c5 ?_
  by_cases c6 : m = 6
  · refine S_t c6 (S_bn1 (S_mono (woC h9) (fun o ho => S_some (S_f c0 (S_f c1 (S_f c2 (S_f c3 (S_f c4 (S_f c5 (S_t c6 (S_bn1 (S_mono (woM h9) (fun o' ho' => S_some ?_)))))))))))))
    exact ⟨ho.1.trans ho'.1.symm, (ho.2.fg ho'.2).rel⟩
  · exact S_f c6 (S_some (S_f c0 (S_f c1 (S_f c2 (S_f c3 (S_f c4 (S_f c5 (S_f c6 (S_some ⟨rfl, h⟩)))))))))
/-! ===== as both are made ===== -/
theorem op_eq : ∀ s, s < 4 → opn0 s = nI (7 * s) ∧ opm0 s = nI (7 * s) := by
  intro s hs
  rcases (show s = 0 ∨ s = 1 ∨ s = 2 ∨ s = 3 by omega) with rfl | rfl | rfl | rfl <;> exact ⟨by decide, by decide⟩
theorem rel_0 (p : Nat) (hp : p < 3) : RelP sg0 tm0 p 0 (fun s => 7 * s) (fun _ => 0) (fun _ => 0) (fun _ => 0) (fun _ => 0) := by
  refine ⟨⟨fun s hs => ⟨?_, ?_⟩, ?_, by omega, fun n hn => by omega⟩, ⟨fun n hn => by omega, fun q => by omega⟩, Or.inl ?_, ⟨fun s hs => ⟨?_, ?_⟩, ?_, by omega, fun n hn => by omega⟩, fun n hn => by omega⟩
  · unfold sg0
    rw [if_pos rfl]
    exact (op_eq s hs).1
  · dsimp only
    omega
  · unfold sg0
    rw [if_neg (by omega)]
    rfl
  · unfold sg0
    rw [if_neg (by omega)]
  · unfold tm0
    rw [if_pos rfl]
    exact (op_eq s hs).2
  · dsimp only
    omega
  · unfold tm0
    rw [if_neg (by omega)]
    rfl
theorem sim_0 : Rel sg0 tm0 := ⟨fun s => 7 * s, fun _ => 0, fun _ _ => 0, fun _ _ => 0, fun _ _ => 0, fun _ _ => 0, rel_0⟩
