/-! ===== union ===== -/
def bS (M : Nat → Nat → Nat) (c : Nat → Nat) (x : Nat) : Nat := ons (fun p => bcost (M p) (c p) (bt x p)) 3
def dU (M : Nat → Nat → Nat) (c : Nat → Nat) (x p : Nat) : Nat → Nat := dr (M p) (c p) (bt x p)
def us (L M : Nat → Nat → Nat) (c : Nat → Nat) (x : Nat) : Nat := if bS M c x < 1000000 then bS M c x + 4 * TX 1 L (dU M c x) c else 1000000
theorem bS_all {M : Nat → Nat → Nat} {c : Nat → Nat} {x : Nat} (h : bS M c x < 1000000) : ∀ p, p < 3 → bcost (M p) (c p) (bt x p) < 1000000 := by
  have e : bS M c x = 0 + bcost (M 0) (c 0) (bt x 0) + bcost (M 1) (c 1) (bt x 1) + bcost (M 2) (c 2) (bt x 2) := rfl
  intro p hp
  rcases (show p = 0 ∨ p = 1 ∨ p = 2 by omega) with rfl | rfl | rfl <;> omega
theorem TX_le {u : Nat} {L d : Nat → Nat → Nat} {c : Nat → Nat} (hc : ∀ p, p < 3 → c p ≤ 12) : TX u L d c ≤ 864 := by
  have h : ∀ p, p < 3 → RX u L d c p 3 ≤ 288 := by
    intro p hp
    have := ons_le (g := fun j => GX u L d c p (p + 1 + j)) (b := 144) (3 - p - 1) (fun j hj => GX_le (hc p hp) (hc _ (by omega)))
    unfold RX
    omega
  have := ons_le (b := 288) 3 h
  unfold TX
  omega
theorem bS_le {M : Nat → Nat → Nat} {c : Nat → Nat} {x : Nat} (hc : ∀ p, p < 3 → c p ≤ 12) : bS M c x ≤ 3000000 ∧ (bS M c x < 1000000 → bS M c x ≤ 108) := by
  have e : bS M c x = 0 + bcost (M 0) (c 0) (bt x 0) + bcost (M 1) (c 1) (bt x 1) + bcost (M 2) (c 2) (bt x 2) := rfl
  have h0 := bcost_le (M := M 0) (f := bt x 0) (hc 0 (by omega))
  have h1 := bcost_le (M := M 1) (f := bt x 1) (hc 1 (by omega))
  have h2 := bcost_le (M := M 2) (f := bt x 2) (hc 2 (by omega))
  omega
theorem us_le {L M : Nat → Nat → Nat} {c : Nat → Nat} {x : Nat} (hc : ∀ p, p < 3 → c p ≤ 12) : us L M c x ≤ 1000000 ∧ (bS M c x < 1000000 ↔ us L M c x < 1000000) := by
  have h1 := TX_le (u := 1) (L := L) (d := dU M c x) hc
  have h2 := bS_le (M := M) (x := x) hc
  unfold us
  split <;> omega
theorem us_0 {L M : Nat → Nat → Nat} {c : Nat → Nat} (hc : ∀ p, p < 3 → c p ≤ 12) : us L M c 0 < 1000000 := by
  rw [← (us_le hc).2]
  have e : bS M c 0 = 0 + bcost (M 0) (c 0) 0 + bcost (M 1) (c 1) 0 + bcost (M 2) (c 2) 0 := rfl
  have h : ∀ p, p < 3 → bcost (M p) (c p) 0 ≤ 36 := by
    intro p hp
    have := Bn_le (M := M p) (n := 0) (w := 0) (hc p hp)
    unfold bcost
    split
    · omega
    · rw [if_neg (fun q => absurd q.1 (by decide))]
      exact this
  have h0 := h 0 (by omega)
  have h1 := h 1 (by omega)
  have h2 := h 2 (by omega)
  omega
section UC
variable {σ τ : Mm} {O c : Nat → Nat} {P Q L M : Nat → Nat → Nat}
theorem Rels.cs (h : Rels σ τ O c P Q L M) : ∀ p, p < 3 → c p ≤ 12 := fun p hp => (h p hp).1.2.2.1
/-- a bowing that is worked out -/
def Wk (σ : Mm) (c : Nat → Nat) (M : Nat → Nat → Nat) (p f : Nat) : Prop := σ (31 + 15 * p + 7 + 4 * f) 0 = nI (bcost (M p) (c p) f) ∧ (bcost (M p) (c p) f < 1000000 → ∀ n, n < c p → σ (31 + 15 * p + 7 + 4 * f + 1) n = nI (dr (M p) (c p) f n))
theorem workAll (h : Rels σ τ O c P Q L M) : Sat (f_X5_workAllBowings σ) (fun σ' => (∀ p, p < 3 → ∀ f, f < 2 → Wk σ' c M p f) ∧ Rels σ' τ O c P Q L M) := by
  unfold f_X5_workAllBowings
  refine S_bn0 ?_
  refine S_lq1 (fun σ' v => ∃ j, v = nI j ∧ j ≤ 3 ∧ (∀ p, p < j → ∀ f, f < 2 → Wk σ' c M p f) ∧ Rels σ' τ O c P Q L M) (fun _ v => 3 - v.toNatClampNeg) ?_ fu σ 0 (by unfold fu; omega) ⟨0, rfl, by omega, fun p hp => by omega, h⟩
  rintro σ' v ⟨j, rfl, hj, g1, g2⟩
  unfold f_X5_workAllBowings_s2
  by_cases cj : j = 3
  · subst cj
    exact S_t (by decide) (S_inr (S_some ⟨g1, g2⟩))
  · have hj' : j < 3 := by omega
    have ms := ms3 hj'
    refine S_f (nI_ge (b := 3) hj' (by decide)) (S_chk (inb_nI hj' (by decide)) ?_)
    rw [ix_nI (show j < 2 ^ 31 by omega)] at ms ⊢
    have k7 : 31 + 15 * j + 7 = 31 + 15 * j + 7 + 4 * 0 := by omega
    have k11 : 31 + 15 * j + 11 = 31 + 15 * j + 7 + 4 * 1 := by omega
    refine S_chk (by rw [kd_part hj']; rfl) (S_chk (inb_nI hj' (by decide)) (S_chk (by rw [kd_b hj' (by decide) k7]; rfl) (S_bn0 (S_mono (workC (f := 0) hj' (by decide) k7 (g2.mkC hj')) (fun σ1 h1 => ?_)))))
    obtain ⟨a1, a2, a3⟩ := h1
    have r1 := g2.bw hj' (f := 0) (by decide) k7 a3
    refine S_chk (inb_nI hj' (by decide)) (S_chk (inb_nI hj' (by decide)) (S_chk (by rw [kd_b hj' (by decide) k11]; rfl) (S_bn0 (S_mono (workC (f := 1) hj' (by decide) k11 (r1.mkC hj')) (fun σ2 h2 => S_inl ?_)))))
    obtain ⟨b1, b2, b3⟩ := h2
    have r2 := r1.bw hj' (f := 1) (by decide) k11 b3
    refine ⟨⟨j + 1, nI_1 j, by omega, fun p hp f hf => ?_, r2⟩, ms⟩
    dsimp only
    by_cases e : p = j
    · subst e
      rcases (show f = 0 ∨ f = 1 by omega) with rfl | rfl
      · unfold Wk
        rw [← k7, b3 _ (by omega), b3 _ (by omega)]
        exact ⟨a1, a2⟩
      · unfold Wk
        rw [← k11]
        exact ⟨b1, b2⟩
    · have g := g1 p (by omega) f hf
      unfold Wk at g ⊢
      rw [b3 _ (by omega), b3 _ (by omega), a3 _ (by omega), a3 _ (by omega)]
      exact g
theorem sumC (h : Rels σ τ O c P Q L M) (hw : ∀ p, p < 3 → ∀ f, f < 2 → Wk σ c M p f) {x : Nat} (hx : x < 8) : f_X5_unionSum σ (nI x) = some (σ, nI (us L M c x)) := by
  have hb := bS_le (M := M) (x := x) h.cs
  have key : Sat (f_X5_unionSum σ (nI x)) (fun o => o = (σ, nI (us L M c x))) := by
    unfold f_X5_unionSum
    refine S_bn1 ?_
    refine S_lq2 (fun σ' s v => σ' = σ ∧ ∃ p, v = nI p ∧ p ≤ 3 ∧ s = nI (ons (fun p => bcost (M p) (c p) (bt x p)) p)) (fun _ _ v => 3 - v.toNatClampNeg) ?_ fu σ 0 0 (by unfold fu; omega) ⟨rfl, 0, rfl, by omega, rfl⟩
    rintro σ' s v ⟨rfl, p, rfl, hp, rfl⟩
    unfold f_X5_unionSum_s4
    by_cases cp : p = 3
    · subst cp
      refine S_t (by decide) (S_inr ?_)
      dsimp only
      have e : ons (fun p => bcost (M p) (c p) (bt x p)) 3 = bS M c x := rfl
      rw [e]
      unfold us
      by_cases cb : bS M c x < 1000000
      · rw [if_pos cb]
        refine S_t (nI_lt (b := 1000000) cb (by decide)) (S_b1 (unlikeC (d := dU M c x) h hx (fun p hp n hn => ⟨(hw p hp (bt x p) (bt_lt x p)).2 (bS_all cb p hp) n hn, dr_lt (bt_lt x p) n⟩)) (S_some ?_))
        rw [show (4 : Int32) * nI (TX 1 L (dU M c x) c) = nI (4 * TX 1 L (dU M c x) c) from pk_mul 4 _, nI_add]
      · rw [if_neg cb]
        exact S_f (nI_nlt (b := 1000000) (by omega) (by omega)) (S_some rfl)
    · have hp' : p < 3 := by omega
      refine S_f (nI_ge (b := 3) hp' (by decide)) (S_b1 (ub_eq hx hp') (S_on1 (S_chk (by rw [kd_b hp' (bt_lt x p) rfl]; rfl) (S_inl ⟨⟨rfl, p + 1, nI_1 p, by omega, ?_⟩, ms3 hp'⟩))))
      dsimp only
      rw [(hw p hp' (bt x p) (bt_lt x p)).1, nI_add, ons_s]
  obtain ⟨o, h1, rfl⟩ := key
  exact h1
theorem leastC (h : Rels σ τ O c P Q L M) (hw : ∀ p, p < 3 → ∀ f, f < 2 → Wk σ c M p f) : f_X5_leastUnion σ = some (σ, nI (amL (us L M c) 8)) := by
  have h0 := us_0 (L := L) (M := M) h.cs
  have key : Sat (f_X5_leastUnion σ) (fun o => o = (σ, nI (amL (us L M c) 8))) := by
    unfold f_X5_leastUnion
    refine S_b1 (sumC (x := 0) h hw (by omega)) (S_bn1 ?_)
    refine S_lq3 (fun σ' a b v => σ' = σ ∧ ∃ j, v = nI j ∧ 1 ≤ j ∧ j ≤ 8 ∧ a = nI (amL (us L M c) j) ∧ b = nI (mnL (us L M c) j)) (fun _ _ _ v => 8 - v.toNatClampNeg) ?_ fu σ 0 _ 1 (by unfold fu; omega) ⟨rfl, 1, rfl, by omega, by omega, ?_, ?_⟩
    · rintro σ' a b v ⟨rfl, j, rfl, j1, j2, rfl, rfl⟩
      unfold f_X5_leastUnion_s10
      by_cases cj : j = 8
      · subst cj
        exact S_t (by decide) (S_inr (S_some rfl))
      · have hj : j < 8 := by omega
        have hu := us_le (L := L) (M := M) (x := j) h.cs
        have hm := mnL_le (us L M c) j
        have ms : 8 - (nI j + 1).toNatClampNeg < 8 - (nI j).toNatClampNeg := by
          rw [nI_1, ix_nI (show j + 1 < 2 ^ 31 by omega), ix_nI (show j < 2 ^ 31 by omega)]
          omega
        refine S_f (nI_ge (b := 8) hj (by decide)) (S_b1 (sumC h hw hj) ?_)
        by_cases cc : us L M c j < mnL (us L M c) j
        · refine S_f (nI_ge cc (by omega)) (S_inl ⟨⟨rfl, j + 1, nI_1 j, by omega, by omega, ?_, ?_⟩, ms⟩)
          · rw [amL_s, if_pos cc]
          · rw [mnL_s, if_pos cc]
        · refine S_t (nI_le (by omega) (by omega)) (S_inl ⟨⟨rfl, j + 1, nI_1 j, by omega, by omega, ?_, ?_⟩, ms⟩)
          · rw [amL_s, if_neg cc]
          · rw [mnL_s, if_neg cc]
    · rw [amL_s, if_pos (show us L M c 0 < mnL (us L M c) 0 from h0)]
      rfl
    · rw [mnL_s, if_pos (show us L M c 0 < mnL (us L M c) 0 from h0)]
  obtain ⟨o, h1, rfl⟩ := key
  exact h1
theorem bowAllM (h : Rels σ τ O c P Q L M) {x : Nat} (hx : x < 8) : Sat (f_X6_bowAll τ (nI x)) (fun o => (bS M c x < 1000000 → o.2 = nI (bS M c x) ∧ ∀ p, p < 3 → ∀ n, n < c p → o.1 17 (12 * p + n) = nI (dU M c x p n)) ∧ (¬ bS M c x < 1000000 → o.2 = -3) ∧ ∀ k, k ≠ 16 → k ≠ 17 → o.1 k = τ k) := by
  have hcs := h.cs
  unfold f_X6_bowAll
  refine S_lq2 (fun τ' s v => ∃ j, v = nI j ∧ j ≤ 3 ∧ s = nI (ons (fun p => bcost (M p) (c p) (bt x p)) j) ∧ (∀ p, p < j → bcost (M p) (c p) (bt x p) < 1000000 ∧ ∀ n, n < c p → τ' 17 (12 * p + n) = nI (dU M c x p n)) ∧ ∀ k, k ≠ 16 → k ≠ 17 → τ' k = τ k) (fun _ _ v => 3 - v.toNatClampNeg) ?_ fu τ 0 0 (by unfold fu; omega) ⟨0, rfl, by omega, rfl, fun p hp => by omega, fun _ _ _ => rfl⟩
  rintro τ' s v ⟨j, rfl, hj, rfl, g1, g2⟩
  unfold f_X6_bowAll_s4
  have all : (∀ p, p < 3 → bcost (M p) (c p) (bt x p) < 1000000) → bS M c x < 1000000 := by
    intro q
    have e : bS M c x = 0 + bcost (M 0) (c 0) (bt x 0) + bcost (M 1) (c 1) (bt x 1) + bcost (M 2) (c 2) (bt x 2) := rfl
    have h0 := bcost_le (M := M 0) (f := bt x 0) (hcs 0 (by omega))
    have h1 := bcost_le (M := M 1) (f := bt x 1) (hcs 1 (by omega))
    have h2 := bcost_le (M := M 2) (f := bt x 2) (hcs 2 (by omega))
    have q0 := q 0 (by omega)
    have q1 := q 1 (by omega)
    have q2 := q 2 (by omega)
    omega
  by_cases cj : j = 3
  · subst cj
    exact S_t (by decide) (S_inr ⟨fun _ => ⟨rfl, fun p hp => (g1 p hp).2⟩, fun q => absurd (all (fun p hp => (g1 p hp).1)) q, g2⟩)
  · have hj' : j < 3 := by omega
    have hbl := bcost_le (M := M j) (f := bt x j) (hcs j hj')
    refine S_f (nI_ge (b := 3) hj' (by decide)) (S_bn1 ?_)
    rw [bt_eq hx hj']
    refine S_mono (bowM hj' (bt_lt x j) ((h.bm g2).mkM hj')) (fun o ho => ?_)
    obtain ⟨u1, u2, u3, u4⟩ := ho
    have fr : ∀ k, k ≠ 16 → k ≠ 17 → o.1 k = τ k := fun k k1 k2 => by rw [u3 k k1 k2]; exact g2 k k1 k2
    by_cases cb : bcost (M j) (c j) (bt x j) < 1000000
    · obtain ⟨v1, v2⟩ := u1 cb
      refine S_t (by rw [v1]; exact nI_pos' (by omega)) (S_inl ⟨⟨j + 1, nI_1 j, by omega, ?_, fun p hp => ?_, fr⟩, ms3 hj'⟩)
      · dsimp only
        rw [v1, nI_add, ons_s]
      · by_cases e : p = j
        · subst e
          exact ⟨cb, v2⟩
        · obtain ⟨w1, w2⟩ := g1 p (by omega)
          refine ⟨w1, fun n hn => ?_⟩
          have := hcs p (by omega)
          dsimp only
          rw [u4 _ (by omega)]
          exact w2 n hn
    · exact S_f (by rw [u2 cb]; decide) (S_inr ⟨fun q => absurd (bS_all q j hj') cb, fun _ => rfl, fr⟩)
theorem loopM (h : Rels σ τ O c P Q L M) : Sat (lq3 f_X6_union_s19 fu τ 1000000 0 0) (fun o => o.2.1 = nI (mnL (us L M c) 8) ∧ o.2.2 = nI (amL (us L M c) 8) ∧ ∀ k, k ≠ 16 → k ≠ 17 → o.1 k = τ k) := by
  have hcs := h.cs
  refine S_lq3 (fun τ' b a v => ∃ j, v = nI j ∧ j ≤ 8 ∧ b = nI (mnL (us L M c) j) ∧ a = nI (amL (us L M c) j) ∧ ∀ k, k ≠ 16 → k ≠ 17 → τ' k = τ k) (fun _ _ _ v => 8 - v.toNatClampNeg) ?_ fu τ 1000000 0 0 (by unfold fu; omega) ⟨0, rfl, by omega, rfl, rfl, fun _ _ _ => rfl⟩
  rintro τ' b a v ⟨j, rfl, hj, rfl, rfl, g⟩
  unfold f_X6_union_s19
  by_cases cj : j = 8
  · subst cj
    exact S_t (by decide) (S_inr ⟨rfl, rfl, g⟩)
  · have hj' : j < 8 := by omega
    have hu := us_le (L := L) (M := M) (x := j) hcs
    have hm := mnL_le (us L M c) j
    have ms : 8 - (nI j + 1).toNatClampNeg < 8 - (nI j).toNatClampNeg := by
      rw [nI_1, ix_nI (show j + 1 < 2 ^ 31 by omega), ix_nI (show j < 2 ^ 31 by omega)]
      omega
    refine S_f (nI_ge (b := 8) hj' (by decide)) (S_bn1 (S_mono (bowAllM (h.bm g) hj') (fun o ho => ?_)))
    obtain ⟨u1, u2, u3⟩ := ho
    have fr : ∀ k, k ≠ 16 → k ≠ 17 → o.1 k = τ k := fun k k1 k2 => by rw [u3 k k1 k2]; exact g k k1 k2
    have hb := bS_le (M := M) (x := j) hcs
    have val : Sat (if 0 ≤ o.2 then bn1 (f_X6_alikes o.1 1) (fun σ14 r14 => some (σ14, (o.2 + (4 * r14)))) else some (o.1, 1000000)) (fun o' => o' = (o.1, nI (us L M c j))) := by
      unfold us
      by_cases cb : bS M c j < 1000000
      · obtain ⟨v1, v2⟩ := u1 cb
        rw [if_pos cb]
        refine S_t (by rw [v1]; exact nI_pos' (by omega)) (S_b1 (alikesM (u := 1) (d := dU M c j) (h.bm fr) (by decide) (fun _ p hp n hn => ⟨v2 p hp n hn, dr_lt (bt_lt j p) n⟩)) (S_some ?_))
        rw [v1, show (4 : Int32) * nI (TX 1 L (dU M c j) c) = nI (4 * TX 1 L (dU M c j) c) from pk_mul 4 _, nI_add]
      · rw [if_neg cb]
        exact S_f (by rw [u2 cb]; decide) (S_some rfl)
    refine S_bn1 (S_mono val (fun o' ho' => ?_))
    subst ho'
    by_cases cc : us L M c j < mnL (us L M c) j
    · refine S_f (nI_ge cc (by omega)) (S_inl ⟨⟨j + 1, nI_1 j, by omega, ?_, ?_, fr⟩, ms⟩)
      · rw [mnL_s, if_pos cc]
      · rw [amL_s, if_pos cc]
    · refine S_t (nI_le (by omega) (by omega)) (S_inl ⟨⟨j + 1, nI_1 j, by omega, ?_, ?_, fr⟩, ms⟩)
      · rw [mnL_s, if_neg cc]
      · rw [amL_s, if_neg cc]
end UC
theorem sim_union (σ τ : Mm) (m : Int32) (h : Rel σ τ) : Two (f_X5_union σ m) (f_X6_union τ m) := by
  unfold f_X5_union
  by_cases hm : m < nI 0 ∨ ¬ m ≤ nI 2
  · exact two (S_b1 (io_no hm) (S_f (by decide) (S_some (S_b1 (in_no hm) (S_t rfl (S_some ⟨rfl, h⟩))))))
  · have m1 : ¬ m < nI 0 := fun q => hm (Or.inl q)
    have m2 : m ≤ nI 2 := Decidable.byContradiction (fun q => hm (Or.inr q))
    obtain ⟨O, c, P, Q, L, M, h'⟩ := h
    have h9 : Rels σ τ O c P Q L M := h'
    have hcs := h9.cs
    have u0 := us_0 (L := L) (M := M) hcs
    have hlt : mnL (us L M c) 8 < 1000000 := Nat.lt_of_le_of_lt (mnL_lb (us L M c) 8 0 (by omega)) u0
    obtain ⟨x1, x2, -⟩ := amL_ok (us L M c) 8 hlt
    have cb : bS M c (amL (us L M c) 8) < 1000000 := (us_le (L := L) hcs).2.mpr (by rw [x2]; exact hlt)
    apply two
    refine S_b1 (io_yes m1 m2) (S_t rfl (S_bn0 (S_mono (workAll h9) (fun σ1 h1 => ?_))))
    obtain ⟨w1, w2⟩ := h1
    refine S_b1 (leastC w2 w1) ?_
    have rM : ∀ {R : Mm × Int32 → Prop}, (∀ τ2 : Mm, Rels σ1 τ2 O c P Q L M → Sat (if 2 ≤ m then bn1 (f_X6_bowAll τ2 (nI (amL (us L M c) 8))) (fun σ6 r6 => (if 0 ≤ r6 then bn1 (f_X6_alikes σ6 1) (fun σ8 r8 => some (σ8, r8)) else some (σ6, 0))) else (if m = 0 then some (τ2, nI (amL (us L M c) 8)) else some (τ2, nI (mnL (us L M c) 8)))) R) → Sat (f_X6_union τ m) R := by
      intro R hR
      unfold f_X6_union
      refine S_b1 (in_yes m1 m2) (S_f (by decide) (S_bn2 (S_mono (loopM h9) (fun o ho => ?_))))
      obtain ⟨u1, u2, u3⟩ := ho
      rw [u1, u2]
      exact hR o.1 (w2.bm u3)
    by_cases c0 : m = 0
    · refine S_t c0 (S_some (rM (fun τ2 r2 => S_f (by rw [c0]; decide) (S_t c0 (S_some ⟨rfl, r2.rel⟩)))))
    · refine S_f c0 ?_
      by_cases c1 : m = 1
      · refine S_t c1 (S_b1 (sumC w2 w1 x1) (S_some (rM (fun τ2 r2 => S_f (by rw [c1]; decide) (S_f c0 (S_some ⟨?_, r2.rel⟩))))))
        dsimp only
        rw [x2]
      · have e2 : m = 2 := by
          rcases rng m 0 2 (by decide) (by decide) with ⟨j, -, hj, rfl⟩ | q
          · rcases (show j = 0 ∨ j = 1 ∨ j = 2 by omega) with rfl | rfl | rfl
            · exact absurd rfl c0
            · exact absurd rfl c1
            · rfl
          · exact absurd q hm
        refine S_f c1 (S_b1 (unlikeC (d := dU M c (amL (us L M c) 8)) w2 x1 (fun p hp n hn => ⟨(w1 p hp _ (bt_lt _ p)).2 (bS_all cb p hp) n hn, dr_lt (bt_lt _ p) n⟩)) (S_some (rM (fun τ2 r2 => S_t (by rw [e2]; decide) (S_bn1 (S_mono (bowAllM r2 x1) (fun o ho => ?_)))))))
        obtain ⟨u1, u2, u3⟩ := ho
        obtain ⟨v1, v2⟩ := u1 cb
        have hb := bS_le (M := M) (x := amL (us L M c) 8) hcs
        refine S_t (by rw [v1]; exact nI_pos' (by omega)) (S_b1 (alikesM (u := 1) (d := dU M c (amL (us L M c) 8)) (r2.bm u3) (by decide) (fun _ p hp n hn => ⟨v2 p hp n hn, dr_lt (bt_lt _ p) n⟩)) (S_some ⟨rfl, (r2.bm u3).rel⟩))
