/-! ===== hard, finger, shifts ===== -/
section FHs
variable {σ τ : Mm} {O c : Nat → Nat} {P Q L M : Nat → Nat → Nat}
/-- all three parts -/
def Rels (σ τ : Mm) (O c : Nat → Nat) (P Q L M : Nat → Nat → Nat) : Prop := ∀ p, p < 3 → RelP σ τ p (c p) O (P p) (Q p) (L p) (M p)
theorem Rels.rel (h : Rels σ τ O c P Q L M) : Rel σ τ := ⟨O, c, P, Q, L, M, h⟩
theorem Rels.fg {τ' : Mm} (h : Rels σ τ O c P Q L M) (h2 : ∀ k, 1 ≤ k → k < 7 → τ' k = τ k) : Rels σ τ' O c P Q L M := fun p hp => RelP_same (h p hp) rfl (fun _ _ => rfl) (h2 1 (by omega) (by omega)) (by rw [h2 2 (by omega) (by omega)]) (fun k k1 k2 n _ => by rw [h2 k (by omega) k2])
def FgCost (O : Nat → Nat) (P Q M : Nat → Nat) (c : Nat) : Nat := fcost (KN O P Q) M c
theorem hasC {p : Nat} (hp : p < 3) (h : Rels σ τ O c P Q L M) : Sat (f_X5_hasFingering σ (31 + 15 * p)) (fun o => (FgCost O (P p) (Q p) (M p) (c p) < 1000000 → o.2 = 1) ∧ (¬ FgCost O (P p) (Q p) (M p) (c p) < 1000000 → o.2 = 0) ∧ o.1 (31 + 15 * p) 1 = nI (FgCost O (P p) (Q p) (M p) (c p)) ∧ (FgCost O (P p) (Q p) (M p) (c p) < 1000000 → ∀ n, n < c p → o.1 (31 + 15 * p + 6) n = nI (chK (KN O (P p) (Q p)) (M p) (c p) n)) ∧ Rels o.1 τ O c P Q L M) := by
  unfold f_X5_hasFingering
  refine S_chk (by rw [kd_part hp]; rfl) (S_bn0 ?_)
  have hle : FgCost O (P p) (Q p) (M p) (c p) ≤ 1000000 := fcost_le _ _ _
  have fin : ∀ σ2 : Mm, σ2 (31 + 15 * p) 1 = nI (FgCost O (P p) (Q p) (M p) (c p)) → (FgCost O (P p) (Q p) (M p) (c p) < 1000000 → ∀ n, n < c p → σ2 (31 + 15 * p + 6) n = nI (chK (KN O (P p) (Q p)) (M p) (c p) n)) → Rels σ2 τ O c P Q L M → Sat (if 1000000 ≤ σ2 (31 + 15 * p) 1 then some (σ2, (0 : Int32)) else some (σ2, 1)) (fun o => (FgCost O (P p) (Q p) (M p) (c p) < 1000000 → o.2 = 1) ∧ (¬ FgCost O (P p) (Q p) (M p) (c p) < 1000000 → o.2 = 0) ∧ o.1 (31 + 15 * p) 1 = nI (FgCost O (P p) (Q p) (M p) (c p)) ∧ (FgCost O (P p) (Q p) (M p) (c p) < 1000000 → ∀ n, n < c p → o.1 (31 + 15 * p + 6) n = nI (chK (KN O (P p) (Q p)) (M p) (c p) n)) ∧ Rels o.1 τ O c P Q L M) := by
    intro σ2 h1 h2 h3
    by_cases cf : FgCost O (P p) (Q p) (M p) (c p) < 1000000
    · exact S_f (by rw [h1]; exact nI_ge (b := 1000000) cf (by decide)) (S_some ⟨fun _ => rfl, fun q => absurd cf q, h1, h2, h3⟩)
    · exact S_t (by rw [h1]; exact nI_le (a := 1000000) (by omega) (by omega)) (S_some ⟨fun q => absurd q cf, fun _ => rfl, h1, h2, h3⟩)
  obtain ⟨hd, hl, hc, hm, hf⟩ := h p hp
  rcases hc with h0 | ⟨h1, h2, h3⟩
  · refine S_t h0 (S_bn1 (S_mono (findFC hp hd) (fun o ho => S_nm (S_nm (S_some ?_)))))
    obtain ⟨o1, o2, o3⟩ := ho
    obtain ⟨σ1, r⟩ := o
    dsimp only at o1 o2 o3 ⊢
    refine fin _ ?_ ?_ (fun q hq => ?_)
    · rw [ms_en (by decide), ms_eq, o1]
      rfl
    · intro cf n hn
      rw [ms_ne (by omega), ms_ne (by omega)]
      exact o2 cf n hn
    · by_cases e : q = p
      · subst e
        have hd1 := FgC.dat hq o3 hd
        obtain ⟨a1, a2, a3, a4⟩ := hd1
        refine ⟨⟨fun s hs => ?_, ?_, a3, fun n hn => ?_⟩, ⟨fun n hn => ?_, hl.2⟩, Or.inr ⟨ms_eq, ?_, fun cf n hn => ?_⟩, hm, hf⟩
        · simp (disch := omega) only [ms_ne]
          exact a1 s hs
        · rw [ms_en (by decide), ms_en (by decide)]
          exact a2
        · simp (disch := omega) only [ms_ne]
          exact a4 n hn
        · simp (disch := omega) only [ms_ne]
          rw [o3 _ (by omega) (by omega) (by omega), o3 (31 + 15 * q + 4) (by omega) (by omega) (by omega)]
          exact hl.1 n hn
        · rw [ms_en (by decide), ms_eq, o1]
        · rw [ms_ne (by omega), ms_ne (by omega)]
          exact o2 cf n hn
      · refine RelP_same (h q hq) ?_ (fun j hj => ?_) rfl rfl (fun _ _ _ _ _ => rfl)
        · rw [ms_ne (by omega), ms_ne (by omega), o3 1 (by omega) (by omega) (by omega)]
        · rw [ms_ne (by omega), ms_ne (by omega), o3 _ (by omega) (by omega) (by omega)]
  · exact S_f (by rw [h1]; decide) (S_some (fin σ h2 h3 h))
theorem hasM {p : Nat} (hp : p < 3) (h : Rels σ τ O c P Q L M) : Sat (f_X6_makeFingers τ (nI p)) (fun o => (FgCost O (P p) (Q p) (M p) (c p) < 1000000 → o.2 = 1 ∧ o.1 0 0 = nI (FgCost O (P p) (Q p) (M p) (c p)) ∧ ∀ n, n < c p → ∃ x, o.1 15 n = nI x ∧ x < 6000 ∧ o.1 8 x = nI (chK (KN O (P p) (Q p)) (M p) (c p) n / 10) ∧ o.1 9 x = gK (decide (Q p n ≠ 0)) (chK (KN O (P p) (Q p)) (M p) (c p) n)) ∧ (¬ FgCost O (P p) (Q p) (M p) (c p) < 1000000 → o.2 = 0) ∧ ∀ k, 1 ≤ k → k < 7 → o.1 k = τ k) :=
  S_mono (fingM hp (h p hp).2.2.2.1) (fun _ ho => ⟨ho.1, ho.2.1, fun k k1 k2 => ho.2.2 k k1 (Or.inl k2)⟩)
end FHs
theorem sim_hard (σ τ : Mm) (a : Int32) (h : Rel σ τ) : Two (f_X5_hard σ a) (f_X6_hard τ a) := by
  unfold f_X5_hard f_X6_hard
  rcases rng a 0 2 (by decide) (by decide) with ⟨p, -, hp, rfl⟩ | ha
  · have hp' : p < 3 := by omega
    obtain ⟨O, c, P, Q, L, M, h'⟩ := h
    apply two
    refine S_b1 (pa_yes hp') (S_on1 (S_bn1 (S_mono (hasC hp' h') (fun o ho => ?_))))
    obtain ⟨o1, o2, o3, o4, o5⟩ := ho
    by_cases cf : FgCost O (P p) (Q p) (M p) (c p) < 1000000
    · refine S_f (by rw [o1 cf]; decide) (S_chk (by rw [kd_part hp']; rfl) (S_some (S_b1 (ip_yes hp') (S_f (by decide) (S_bn1 (S_mono (hasM hp' h') (fun u hu => ?_)))))))
      obtain ⟨u1, u2, u3⟩ := hu
      obtain ⟨v1, v2, v3⟩ := u1 cf
      exact S_f (by rw [v1]; decide) (S_some ⟨o3.trans v2.symm, (o5.fg u3).rel⟩)
    · refine S_t (o2 cf) (S_some (S_b1 (ip_yes hp') (S_f (by decide) (S_bn1 (S_mono (hasM hp' h') (fun u hu => ?_))))))
      obtain ⟨u1, u2, u3⟩ := hu
      exact S_t (u2 cf) (S_some ⟨rfl, (o5.fg u3).rel⟩)
  · exact two (S_b1 (pa_no ha) (S_on0 (S_some (S_b1 (ip_no ha) (S_t rfl (S_some ⟨rfl, h⟩))))))
theorem GN_mod {k : Nat} : GN k % 10 = k % 10 := by
  unfold GN
  split <;> omega
theorem sim_finger (σ τ : Mm) (a b m : Int32) (h : Rel σ τ) : Two (f_X5_finger σ a b m) (f_X6_finger τ a b m) := by
  unfold f_X5_finger
  rcases rng a 0 2 (by decide) (by decide) with ⟨p, -, hp, rfl⟩ | ha
  · have hp' : p < 3 := by omega
    obtain ⟨O, c, P, Q, L, M, h'⟩ := id h
    have h9 := h'
    obtain ⟨⟨a1, a2, a3, a4⟩, ⟨b1, b2⟩, d, ⟨e1, e2, e3, e4⟩, f⟩ := h' p hp'
    rcases cnt_c b a3 with ⟨n, hn, rfl⟩ | hb
    · have hn12 : n < 12 := by omega
      by_cases hm : m < nI 0 ∨ ¬ m ≤ nI 5
      · exact two (S_b1 (pw_yes hp' a2 a3 hn) (S_on1 (S_b1 (io_no hm) (S_f (by decide) (S_some (S_b1 (nt_yes hp' e2 e3 hn) (S_f (by decide) (S_b1 (in_no hm) (S_t rfl (S_some ⟨rfl, h⟩))))))))))
      · have m1 : ¬ m < nI 0 := fun q => hm (Or.inl q)
        have m2 : m ≤ nI 5 := Decidable.byContradiction (fun q => hm (Or.inr q))
        apply two
        refine S_b1 (pw_yes hp' a2 a3 hn) (S_on1 (S_b1 (io_yes m1 m2) (S_t rfl (S_bn1 (S_mono (hasC hp' h') (fun o ho => ?_))))))
        obtain ⟨o1, o2, o3, o4, o5⟩ := ho
        obtain ⟨σ4, r4⟩ := o
        dsimp only at o1 o2 o3 o4 o5 ⊢
        by_cases cf : FgCost O (P p) (Q p) (M p) (c p) < 1000000
        · obtain ⟨kk, -, -⟩ := chK_ok (KN_lt O (P p) (Q p)) cf n hn
          have ek := o4 cf n hn
          refine S_f (by rw [o1 cf]; decide) (S_chk (by rw [kd_part hp']; rfl) (S_chk (inC_p hp' (by decide) (by decide) hn12) ?_))
          rw [ix_nI (show n < 2 ^ 31 by omega), ek]
          generalize hX : chK (KN O (P p) (Q p)) (M p) (c p) n = X at kk ek
          have wX : X / 10 % 10 < 10 := by omega
          have gX : X % 10 < 10 := by omega
          have rf : ∀ {R : Mm × Int32 → Prop}, (∀ τ2 x, τ2 8 x = nI (X / 10) → τ2 9 x = gK (decide (Q p n ≠ 0)) X → Rel σ4 τ2 → Sat (if m = 0 then some (τ2, τ2 8 x / 1000) else (if m = 1 then bn1 (f_X6_handOf τ2 (τ2 8 x)) (fun σ12 r12 => some (σ12, r12)) else (if m = 2 then some (τ2, ((τ2 8 x - τ2 8 x / 10 * 10) - (τ2 8 x - τ2 8 x / 10 * 10) / 5 * 5)) else (if m = 3 then bn1 (f_X6_highs τ2 (τ2 8 x - τ2 8 x / 10 * 10)) (fun σ13 r13 => some (σ13, r13)) else (if m = 4 then (if 0 ≤ τ2 9 x then some (τ2, ((τ2 9 x - τ2 9 x / 10 * 10) - (τ2 9 x - τ2 9 x / 10 * 10) / 5 * 5)) else some (τ2, (-3))) else (if 0 ≤ τ2 9 x then bn1 (f_X6_highs τ2 (τ2 9 x - τ2 9 x / 10 * 10)) (fun σ16 r16 => some (σ16, r16)) else some (τ2, (-3)))))))) R) → Sat (f_X6_finger τ (nI p) (nI n) m) R := by
            intro R hR
            unfold f_X6_finger
            refine S_b1 (nt_yes hp' e2 e3 hn) (S_f (by decide) (S_b1 (in_yes m1 m2) (S_f (by decide) (S_bn1 (S_mono (hasM hp' h') (fun u hu => ?_))))))
            obtain ⟨u1, u2, u3⟩ := hu
            obtain ⟨v1, v2, v3⟩ := u1 cf
            obtain ⟨x, w1, w2, w3, w4⟩ := v3 n hn
            rw [hX] at w3 w4
            rw [ix_nI (show n < 2 ^ 31 by omega), w1, ix_nI (show x < 2 ^ 31 by omega)]
            refine S_f (by rw [v1]; decide) (S_chk (inb_nI hn12 (by decide)) (S_chk (inb_nI w2 (by decide)) (S_chk (inb_nI hn12 (by decide)) (S_chk (inb_nI w2 (by decide)) ?_))))
            exact hR u.1 x w3 w4 (o5.fg u3).rel
          have em : nI (X / 10) - nI (X / 10) / 10 * 10 = nI (X / 10 % 10) := pk_rem (d := 10) (by omega) (by decide) (by decide)
          have em5 : nI (X / 10 % 10) - nI (X / 10 % 10) / 5 * 5 = nI (X / 10 % 10 % 5) := pk_rem (d := 5) (by omega) (by decide) (by decide)
          have hG := GN_lt kk
          have eg : nI (GN X) - nI (GN X) / 10 * 10 = nI (X % 10) := by
            rw [← GN_mod (k := X)]
            exact pk_rem (d := 10) (by omega) (by decide) (by decide)
          have eg5 : nI (X % 10) - nI (X % 10) / 5 * 5 = nI (X % 10 % 5) := pk_rem (d := 5) (by omega) (by decide) (by decide)
          have xs := (o5 p hp').1.2.2.2 n hn
          by_cases c0 : m = 0
          · refine S_t c0 (S_b1 (str_eq kk) (S_some (rf (fun τ2 x w3 w4 hr => S_t c0 (S_some ⟨?_, hr⟩)))))
            dsimp only
            rw [w3]
            unfold strK
            rw [show X / 10000 = X / 10 / 1000 by omega]
            exact (pk_div (d := 1000) (by omega) (by decide) (by decide)).symm
          refine S_f c0 ?_
          by_cases c1 : m = 1
          · refine S_t c1 (S_b1 (hd_eq kk) (S_some (rf (fun τ2 x w3 w4 hr => S_f c0 (S_t c1 ?_)))))
            rw [w3]
            exact S_b1 (handOf_eq kk) (S_some ⟨rfl, hr⟩)
          refine S_f c1 ?_
          by_cases c2 : m = 2
          · refine S_t c2 (S_b1 (way_eq kk) (S_b1 (finger_eq wX) (S_some (rf (fun τ2 x w3 w4 hr => S_f c0 (S_f c1 (S_t c2 (S_some ⟨?_, hr⟩))))))))
            dsimp only
            rw [w3, em, em5]
          refine S_f c2 ?_
          by_cases c3 : m = 3
          · refine S_t c3 (S_b1 (way_eq kk) (S_b1 (xt_eq wX) (S_some (rf (fun τ2 x w3 w4 hr => S_f c0 (S_f c1 (S_f c2 (S_t c3 ?_))))))))
            rw [w3, em]
            exact S_b1 (highs_eq wX) (S_some ⟨rfl, hr⟩)
          refine S_f c3 ?_
          by_cases c4 : m = 4
          · refine S_t c4 (S_b1 (dbl_eq hp' hn12 xs.2.2.1 xs.2.2.2.1) ?_)
            by_cases q0 : Q p n = 0
            · rw [if_pos q0]
              refine S_t rfl (S_some (rf (fun τ2 x w3 w4 hr => S_f c0 (S_f c1 (S_f c2 (S_f c3 (S_t c4 (S_f ?_ (S_some ⟨rfl, hr⟩)))))))))
              rw [w4, q0]
              exact qI_neg
            · rw [if_neg q0]
              refine S_f (by decide) (S_b1 (gway_eq kk) (S_b1 (finger_eq gX) (S_some (rf (fun τ2 x w3 w4 hr => S_f c0 (S_f c1 (S_f c2 (S_f c3 (S_t c4 ?_)))))))))
              have w5 : τ2 9 x = nI (GN X) := by
                rw [w4]
                unfold gK
                rw [if_pos (by simp [q0])]
              rw [w5, eg, eg5]
              exact S_t (nI_pos' (by omega)) (S_some ⟨rfl, hr⟩)
          refine S_f c4 (S_b1 (dbl_eq hp' hn12 xs.2.2.1 xs.2.2.2.1) ?_)
          by_cases q0 : Q p n = 0
          · rw [if_pos q0]
            refine S_t rfl (S_some (rf (fun τ2 x w3 w4 hr => S_f c0 (S_f c1 (S_f c2 (S_f c3 (S_f c4 (S_f ?_ (S_some ⟨rfl, hr⟩)))))))))
            rw [w4, q0]
            exact qI_neg
          · rw [if_neg q0]
            refine S_f (by decide) (S_b1 (gway_eq kk) (S_b1 (xt_eq gX) (S_some (rf (fun τ2 x w3 w4 hr => S_f c0 (S_f c1 (S_f c2 (S_f c3 (S_f c4 ?_)))))))))
            have w5 : τ2 9 x = nI (GN X) := by
              rw [w4]
              unfold gK
              rw [if_pos (by simp [q0])]
            rw [w5, eg]
            exact S_t (nI_pos' (by omega)) (S_b1 (highs_eq gX) (S_some ⟨rfl, hr⟩))
        · refine S_t (o2 cf) (S_some (S_b1 (nt_yes hp' e2 e3 hn) (S_f (by decide) (S_b1 (in_yes m1 m2) (S_f (by decide) (S_bn1 (S_mono (hasM hp' h') (fun u hu => ?_))))))))
          obtain ⟨u1, u2, u3⟩ := hu
          exact S_t (u2 cf) (S_some ⟨rfl, (o5.fg u3).rel⟩)
    · exact two (S_b1 (pw_no2 hp' a2 hb) (S_on0 (S_some (S_b1 (nt_no2 hp' e2 hb) (S_t rfl (S_some ⟨rfl, h⟩))))))
  · exact two (S_b1 (pw_no1 ha) (S_on0 (S_some (S_b1 (nt_no1 ha) (S_t rfl (S_some ⟨rfl, h⟩))))))
