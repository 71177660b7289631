/-! ===== of and hold ===== -/
theorem onsetM {τ : Mm} {p n : Nat} {L : Nat → Nat} (hp : p < 3) (hn : n ≤ 12) (h : ∀ m, m < n → τ 5 (12 * p + m) = nI (L m)) : f_X6_onset τ (nI p) (nI n) = some (τ, nI (ons L n)) := by
  have key : Sat (f_X6_onset τ (nI p) (nI n)) (fun o => o = (τ, nI (ons L n))) := by
    unfold f_X6_onset
    refine S_bn1 ?_
    refine S_lq2 (fun τ' s k => τ' = τ ∧ ∃ j, k = nI j ∧ j ≤ n ∧ s = nI (ons L j)) (fun _ _ k => 12 - k.toNatClampNeg) ?_ fu τ 0 0 (by unfold fu; omega) ⟨rfl, 0, rfl, by omega, rfl⟩
    rintro τ' s k ⟨rfl, j, rfl, hj, rfl⟩
    unfold f_X6_onset_s5
    by_cases cj : j = n
    · subst cj
      exact S_t (nI_le (by omega) (by omega)) (S_inr (S_some rfl))
    · refine S_f (nI_ge (show j < n by omega) (by omega)) ?_
      rw [ix12 hp (show j < 12 by omega)]
      refine S_chk (in12 hp (by omega)) (S_inl ?_)
      dsimp only
      rw [ix_nI (show 12 * p + j < 2 ^ 31 by omega), h j (by omega), nI_add]
      refine ⟨⟨rfl, j + 1, nI_1 j, by omega, rfl⟩, ?_⟩
      rw [nI_1, ix_nI (show j + 1 < 2 ^ 31 by omega), ix_nI (show j < 2 ^ 31 by omega)]
      omega
  obtain ⟨o, h1, rfl⟩ := key
  exact h1
theorem qI_neg : ¬ (0 : Int32) ≤ -1 := by decide
theorem Rel_hold {σ τ σ' τ' : Mm} {n : Nat} (h : Rel σ τ) (hn : n < 12) (h1 : FrC σ σ' n) (h2 : FrM τ τ' n) : Rel σ' τ' := Rel_same h (h1.1 1 (by omega) (by omega)) (fun p _ j _ => h1.1 _ (by omega) (by omega)) (fun k k1 k2 => h2.1 k (by omega))
theorem sim_of (σ τ : Mm) (a b m : Int32) (h : Rel σ τ) : Two (f_X5_of σ a b m) (f_X6_of τ a b m) := by
  unfold f_X5_of
  rcases rng a 0 2 (by decide) (by decide) with ⟨p, -, hp, rfl⟩ | ha
  · have hp' : p < 3 := by omega
    obtain ⟨O, c, P, Q, L, M, h'⟩ := id h
    obtain ⟨⟨a1, a2, a3, a4⟩, ⟨b1, b2⟩, d, ⟨e1, e2, e3, e4⟩, f⟩ := h' p hp'
    rcases cnt_c b a3 with ⟨n, hn, rfl⟩ | hb
    · have hn12 : n < 12 := by omega
      have kd : (kdC (31 + 15 * p) == 2) = true := by rw [kd_part hp']; rfl
      obtain ⟨x1, x2, x3, x4, x5, x6⟩ := a4 n hn
      obtain ⟨y1, y2, y3, y4, y5, y6⟩ := e4 n hn
      obtain ⟨z1, z2, z3⟩ := b1 n hn
      apply two
      refine S_b1 (pw_yes hp' a2 a3 hn) (S_on1 ?_)
      have rf : ∀ {R : Mm × Int32 → Prop}, Sat (if m = 0 then chk (inb (nI (12 * p + n)) 36) (some (τ, τ 3 (12 * p + n))) else if m = 1 then chk (inb (nI (12 * p + n)) 36) (some (τ, τ 5 (12 * p + n))) else if m = 2 then chk (inb (nI (12 * p + n)) 36) (some (τ, τ 6 (12 * p + n))) else if m = 3 then chk (inb (nI (12 * p + n)) 36) (if 0 ≤ τ 4 (12 * p + n) then chk (inb (nI (12 * p + n)) 36) (some (τ, τ 4 (12 * p + n))) else some (τ, -3)) else if m = 4 then bn1 (f_X6_onset τ (nI p) (nI n)) (fun σ10 r10 => some (σ10, r10)) else if m = 5 then bn0 (f_X6_findHolds τ (nI p) (nI n)) (fun σ11 => chk (inb (nI n) 12) (some (σ11, σ11 7 n))) else some (τ, -1)) R → Sat (f_X6_of τ (nI p) (nI n) m) R := by
        intro R hR
        unfold f_X6_of
        refine S_b1 (nt_yes hp' e2 e3 hn) (S_f (by decide) ?_)
        rw [ix12 hp' hn12, ix_nI (show 12 * p + n < 2 ^ 31 by omega), ix_nI (show n < 2 ^ 31 by omega)]
        exact hR
      rw [ix_nI (show n < 2 ^ 31 by omega)]
      by_cases c0 : m = 0
      · exact S_t c0 (S_chk kd (S_chk (inC_p hp' (by decide) (by decide) hn12) (S_some (rf (S_t c0 (S_chk (in12 hp' hn12) (S_some ⟨x1.trans y1.symm, h⟩)))))))
      refine S_f c0 ?_
      by_cases c1 : m = 1
      · exact S_t c1 (S_chk kd (S_chk (inC_p hp' (by decide) (by decide) hn12) (S_some (rf (S_f c0 (S_t c1 (S_chk (in12 hp' hn12) (S_some ⟨z1.trans (f n hn).symm, h⟩))))))))
      refine S_f c1 ?_
      by_cases c2 : m = 2
      · exact S_t c2 (S_chk kd (S_chk (inC_p hp' (by decide) (by decide) hn12) (S_some (rf (S_f c0 (S_f c1 (S_t c2 (S_chk (in12 hp' hn12) (S_some ⟨x5.trans y5.symm, h⟩)))))))))
      refine S_f c2 ?_
      by_cases c3 : m = 3
      · refine S_t c3 (S_chk kd (S_b1 (dbl_eq hp' hn12 x3 x4) ?_))
        by_cases q0 : Q p n = 0
        · rw [if_pos q0]
          refine S_t rfl (S_some (rf (S_f c0 (S_f c1 (S_f c2 (S_t c3 (S_chk (in12 hp' hn12) (S_f ?_ (S_some ⟨rfl, h⟩)))))))))
          rw [y3, q0]
          decide
        · rw [if_neg q0]
          refine S_f (by decide) (S_chk (inC_p hp' (by decide) (by decide) hn12) (S_some (rf (S_f c0 (S_f c1 (S_f c2 (S_t c3 (S_chk (in12 hp' hn12) (S_t ?_ (S_chk (in12 hp' hn12) (S_some ⟨x3.trans y3.symm, h⟩)))))))))))
          rw [y3]
          unfold qI
          rw [if_neg q0]
          exact nI_pos' (by omega)
      refine S_f c3 ?_
      by_cases c4 : m = 4
      · refine S_t c4 (S_chk kd (S_chk (inC_p hp' (by decide) (by decide) hn12) (S_some (rf (S_f c0 (S_f c1 (S_f c2 (S_f c3 (S_t c4 (S_b1 (onsetM hp' (by omega) (fun k hk => f k (by omega))) (S_some ⟨z3, h⟩)))))))))))
      refine S_f c4 ?_
      by_cases c5 : m = 5
      · refine S_t c5 (S_bn1 (S_mono (hldC hp' hn12 a1 x1 x2 x3 x4) (fun o ho => S_some (rf (S_f c0 (S_f c1 (S_f c2 (S_f c3 (S_f c4 (S_t c5 (S_bn0 (S_mono (holdsM hp' hn12 e1 y1 y2 y3 y4) (fun τ2 h2 => S_chk (inb_nI hn12 (by decide)) (S_some ?_))))))))))))))
        obtain ⟨o1, o2, o3⟩ := ho
        obtain ⟨u1, u2⟩ := h2
        exact ⟨o3.trans u1.1.symm, Rel_hold h hn12 o2 u2⟩
      · exact S_f c5 (S_some (rf (S_f c0 (S_f c1 (S_f c2 (S_f c3 (S_f c4 (S_f c5 (S_some ⟨rfl, h⟩)))))))))
    · exact two (S_b1 (pw_no2 hp' a2 hb) (S_on0 (S_some (S_b1 (nt_no2 hp' e2 hb) (S_t rfl (S_some ⟨rfl, h⟩))))))
  · exact two (S_b1 (pw_no1 ha) (S_on0 (S_some (S_b1 (nt_no1 ha) (S_t rfl (S_some ⟨rfl, h⟩))))))
theorem sim_hold (σ τ : Mm) (a b m : Int32) (h : Rel σ τ) : Two (f_X5_hold σ a b m) (f_X6_hold τ a b m) := by
  unfold f_X5_hold
  rcases rng a 0 2 (by decide) (by decide) with ⟨p, -, hp, rfl⟩ | ha
  · have hp' : p < 3 := by omega
    obtain ⟨O, c, P, Q, L, M, h'⟩ := id h
    obtain ⟨⟨a1, a2, a3, a4⟩, ⟨b1, b2⟩, d, ⟨e1, e2, e3, e4⟩, f⟩ := h' p hp'
    rcases cnt_c b a3 with ⟨n, hn, rfl⟩ | hb
    · have hn12 : n < 12 := by omega
      obtain ⟨x1, x2, x3, x4, x5, x6⟩ := a4 n hn
      obtain ⟨y1, y2, y3, y4, y5, y6⟩ := e4 n hn
      apply two
      refine S_b1 (pw_yes hp' a2 a3 hn) (S_on1 (S_bn1 (S_mono (hldC hp' hn12 a1 x1 x2 x3 x4) (fun o ho => ?_))))
      obtain ⟨⟨o1, o2⟩, o3, o4⟩ := ho
      obtain ⟨σ1, r⟩ := o
      dsimp only at o1 o2 o3 o4 ⊢
      subst o4
      have hl := KL_len O (P p n) (Q p n)
      have md : ∀ {R : Mm × Int32 → Prop}, (∀ τ2, SegM τ2 n (decide (Q p n ≠ 0)) (KL O (P p n) (Q p n)) → Rel σ1 τ2 → Sat (bn1 (f_X6_in τ2 m 0 (nI (KL O (P p n) (Q p n)).length - 1)) (fun σ5 r5 => (if r5 = 0 then some (σ5, (-3)) else chk (inb ((500 * (nI n)) + m) 6000) (some (σ5, (σ5 8 ((500 * (nI n)) + m).toNatClampNeg)))))) R) → Sat (f_X6_hold τ (nI p) (nI n) m) R := by
        intro R hR
        unfold f_X6_hold
        refine S_b1 (nt_yes hp' e2 e3 hn) (S_f (by decide) (S_bn0 (S_mono (holdsM hp' hn12 e1 y1 y2 y3 y4) (fun τ2 h2 => S_chk (inb_nI hn12 (by decide)) ?_))))
        obtain ⟨u1, u2⟩ := h2
        rw [ix_nI (show n < 2 ^ 31 by omega), u1.1]
        exact hR τ2 u1 (Rel_hold h hn12 o3 u2)
      by_cases cm : m < 0 ∨ ¬ m ≤ nI (KL O (P p n) (Q p n)).length - 1
      · exact S_b1 (io_no cm) (S_f (by decide) (S_some (md (fun τ2 u1 u2 => S_b1 (in_no cm) (S_t rfl (S_some ⟨rfl, u2⟩))))))
      · have m1 : ¬ m < 0 := fun q => cm (Or.inl q)
        have m2 : m ≤ nI (KL O (P p n) (Q p n)).length - 1 := Decidable.byContradiction (fun q => cm (Or.inr q))
        obtain ⟨i, hi, rfl⟩ : ∃ i, i < (KL O (P p n) (Q p n)).length ∧ m = nI i := by
          have e : (nI (KL O (P p n) (Q p n)).length - 1).toInt = ((KL O (P p n) (Q p n)).length : Int) - 1 := pk_sub_toInt (b := 1) (by omega) (by decide)
          rw [fa_le, e] at m2
          rw [fa_lt] at m1
          have h0 : (0 : Int32).toInt = 0 := by decide
          rw [h0] at m1
          refine ⟨m.toInt.toNat, by omega, ?_⟩
          apply Int32.toInt_inj.mp
          rw [nI_toInt (by omega)]
          omega
        refine S_b1 (io_yes m1 m2) (S_t rfl ?_)
        have hk := KL_lt hi
        have ek : f_X1_keyAt σ1 (nI n) (nI i) = some (σ1, nI ((KL O (P p n) (Q p n)).getD i 0)) := by
          unfold f_X1_keyAt
          rw [ix_nI (show n < 2 ^ 31 by omega), chk_t (inb_nI hn12 (by decide)), chk_t (inC_7 hn12 (by omega)), ix_nI (show i < 2 ^ 31 by omega), o2 i hi]
        have en : f_X2_name σ1 (nI ((KL O (P p n) (Q p n)).getD i 0)) = some (σ1, nI ((KL O (P p n) (Q p n)).getD i 0 / 10)) := by
          unfold f_X2_name
          rw [show nI ((KL O (P p n) (Q p n)).getD i 0) / 10 = nI ((KL O (P p n) (Q p n)).getD i 0 / 10) from pk_div (d := 10) (by omega) (by decide) (by decide)]
        refine S_b1 ek (S_b1 en (S_some (md (fun τ2 u1 u2 => S_b1 (in_yes m1 m2) (S_f (by decide) ?_)))))
        rw [e500, nI_add]
        refine S_chk (inb_nI (by omega) (by decide)) (S_some ⟨?_, u2⟩)
        dsimp only
        rw [ix_nI (show 500 * n + i < 2 ^ 31 by omega), (u1.2 i hi).1]
    · exact two (S_b1 (pw_no2 hp' a2 hb) (S_on0 (S_some (S_b1 (nt_no2 hp' e2 hb) (S_t rfl (S_some ⟨rfl, h⟩))))))
  · exact two (S_b1 (pw_no1 ha) (S_on0 (S_some (S_b1 (nt_no1 ha) (S_t rfl (S_some ⟨rfl, h⟩))))))
