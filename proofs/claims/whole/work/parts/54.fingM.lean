/-! ===== the reference finds the fingering ===== -/
def chI (K : Nat → List Nat) (M : Nat → Nat) (c : Nat) : Nat → Nat
  | 0 => amL (C0 K M c) (K 0).length
  | n + 1 => amL (Gn K M c (n + 1) (chK K M c n)) (K (n + 1)).length
theorem chK_I (K : Nat → List Nat) (M : Nat → Nat) (c : Nat) : ∀ n, chK K M c n = (K n).getD (chI K M c n) 0
  | 0 => rfl
  | _ + 1 => rfl
theorem chI_lt {K : Nat → List Nat} {M : Nat → Nat} {c : Nat} (hK : ∀ n i, i < (K n).length → (K n).getD i 0 < 100000) (hf : fcost K M c < 1000000) : ∀ n, n < c → chI K M c n < (K n).length
  | 0, hn => by
    unfold fcost at hf
    rw [if_neg (by omega)] at hf
    exact (amL_ok (C0 K M c) (K 0).length hf).1
  | n + 1, hn => (amL_ok (Gn K M c (n + 1) (chK K M c n)) (K (n + 1)).length ((chK_ok hK hf n (by omega)).2.2 hn)).1
section FMf
variable {τ : Mm} {p c : Nat} {O P Q M : Nat → Nat}
set_option maxHeartbeats 1000000 in
theorem lm18 (hp : p < 3) (hd : DatM τ p c O P Q M) : Sat (lq1 (f_X6_makeFingers_s18 (nI p)) fu τ 0) (fun τ' => (∀ n, n < c → SegM τ' n (decide (Q n ≠ 0)) (KN O P Q n)) ∧ ∀ k, (k < 7 ∨ 13 < k) → τ' k = τ k) := by
  have hc := hd.2.2.1
  refine S_lq1 (fun τ' v => ∃ j, v = nI j ∧ j ≤ c ∧ (∀ n, n < j → SegM τ' n (decide (Q n ≠ 0)) (KN O P Q n)) ∧ ∀ k, (k < 7 ∨ 13 < k) → τ' k = τ k) (fun _ v => 12 - v.toNatClampNeg) ?_ fu τ 0 (by unfold fu; omega) ⟨0, rfl, by omega, fun n h => by omega, fun _ _ => rfl⟩
  rintro τ' v ⟨j, rfl, hj, g1, g2⟩
  have hdat : DatM τ' p c O P Q M := FgM.dat (fun k k1 k2 => g2 k (by omega)) hd
  obtain ⟨d1, d2, d3, d4⟩ := hdat
  unfold f_X6_makeFingers_s18
  refine S_chk (inb_nI hp (by decide)) ?_
  rw [ix_nI (show p < 2 ^ 31 by omega), d2]
  by_cases cj : j = c
  · subst cj
    exact S_t (nI_le (by omega) (by omega)) (S_inr ⟨g1, g2⟩)
  · obtain ⟨e1, e2, e3, e4, e5, e6⟩ := d4 j (by omega)
    refine S_f (nI_ge (show j < c by omega) (by omega)) (S_bn0 (S_mono (holdsM hp (show j < 12 by omega) d1 e1 e2 e3 e4) (fun τ2 h2 => S_inl ?_)))
    dsimp only
    obtain ⟨s1, s2, s3, s4⟩ := h2
    refine ⟨⟨j + 1, nI_1 j, by omega, fun n hn => ?_, fun k hk => ?_⟩, ?_⟩
    · by_cases q : n = j
      · subst q
        exact s1
      · obtain ⟨a1, a2⟩ := g1 n (by omega)
        have hl := KN_len O P Q n
        refine ⟨by rw [s3 n q]; exact a1, fun i hi => ?_⟩
        rw [s4 8 (by omega) (by omega) (500 * n + i) (by omega), s4 9 (by omega) (by omega) (500 * n + i) (by omega), s4 10 (by omega) (by omega) (500 * n + i) (by omega)]
        exact a2 i hi
    · rw [s2 k hk]
      exact g2 k hk
    · rw [nI_1, ix_nI (show j + 1 < 2 ^ 31 by omega), ix_nI (show j < 2 ^ 31 by omega)]
      omega
set_option maxHeartbeats 1000000 in
theorem lm49 (hp : p < 3) (hd : DatM τ p c O P Q M) (h1 : ∀ n, n < c → SegM τ n (decide (Q n ≠ 0)) (KN O P Q n)) : Sat (lq1 (f_X6_makeFingers_s49 (nI p)) fu τ (nI c - 1)) (fun τ' => (∀ n, n < c → CsM (KN O P Q) M c τ' n) ∧ ∀ k, k ≠ 14 → τ' k = τ k) := by
  have hc := hd.2.2.1
  refine S_lq1 (fun τ' v => ∃ j, v = nI j - 1 ∧ j ≤ c ∧ (∀ n, j ≤ n → n < c → CsM (KN O P Q) M c τ' n) ∧ ∀ k, k ≠ 14 → τ' k = τ k) (fun _ v => (v + 1).toNatClampNeg) ?_ fu τ (nI c - 1) ?_ ⟨c, rfl, Nat.le_refl _, fun n a b => by omega, fun _ _ => rfl⟩
  · rintro τ' v ⟨j, rfl, hj, g1, g2⟩
    have hdat : DatM τ' p c O P Q M := FgM.dat (fun k k1 k2 => g2 k (by omega)) hd
    unfold f_X6_makeFingers_s49
    have seg : ∀ n, n < c → SegM τ' n (decide (Q n ≠ 0)) (KN O P Q n) := by
      intro n hn
      have t1 := h1 n hn
      unfold SegM at t1 ⊢
      rw [g2 7 (by omega), g2 8 (by omega), g2 9 (by omega), g2 10 (by omega)]
      exact t1
    by_cases cj : j = 0
    · subst cj
      exact S_t (show nI 0 - 1 < 0 by decide) (S_inr ⟨fun n hn => g1 n (by omega) hn, g2⟩)
    · obtain ⟨n, rfl⟩ : ∃ n, j = n + 1 := ⟨j - 1, by omega⟩
      have hn : n < c := by omega
      rw [nI_pred]
      refine S_f (nI_pos (by omega)) (S_bn0 (S_mono (hardM hp hn hdat (seg n hn) (fun h => ⟨seg _ h, g1 (n + 1) (by omega) h⟩)) (fun τ2 h2 => S_inl ?_)))
      dsimp only
      obtain ⟨s1, s2, s3⟩ := h2
      refine ⟨⟨n, (Int32.sub_eq_add_neg _ _).symm, by omega, fun m m1 m2 => ?_, fun k hk => ?_⟩, ?_⟩
      · by_cases q : m = n
        · subst q
          exact s1
        · intro i hi
          rw [s3 (500 * m + i) (by omega)]
          exact g1 m (by omega) m2 i hi
      · rw [s2 k hk]
        exact g2 k hk
      · rw [nI_1, ix_nI (show n + 1 < 2 ^ 31 by omega)]
        rw [show nI n + (-1) + 1 = nI n by rw [Int32.add_assoc]; exact Int32.add_zero _, ix_nI (by omega)]
        omega
  · rw [show nI c - 1 + 1 = nI c by rw [Int32.sub_eq_add_neg, Int32.add_assoc]; exact Int32.add_zero _, ix_nI (by omega)]
    unfold fu
    omega
set_option maxHeartbeats 1000000 in
theorem lm73 (hc0 : 0 < c) (hc : c ≤ 12) (h0 : τ 0 0 = 1000000) (h1 : SegM τ 0 (decide (Q 0 ≠ 0)) (KN O P Q 0)) (h2 : CsM (KN O P Q) M c τ 0) : Sat (lq1 f_X6_makeFingers_s73 fu τ 0) (fun τ' => τ' 0 0 = nI (mnL (C0 (KN O P Q) M c) (KN O P Q 0).length) ∧ (mnL (C0 (KN O P Q) M c) (KN O P Q 0).length < 1000000 → τ' 15 0 = nI (amL (C0 (KN O P Q) M c) (KN O P Q 0).length)) ∧ ∀ k, k ≠ 0 → k ≠ 15 → τ' k = τ k) := by
  have hl := KN_len O P Q 0
  have hK := KN_lt O P Q
  refine S_lq1 (fun τ' v => ∃ j, v = nI j ∧ j ≤ (KN O P Q 0).length ∧ τ' 0 0 = nI (mnL (C0 (KN O P Q) M c) j) ∧ (mnL (C0 (KN O P Q) M c) j < 1000000 → τ' 15 0 = nI (amL (C0 (KN O P Q) M c) j)) ∧ ∀ k, k ≠ 0 → k ≠ 15 → τ' k = τ k) (fun _ v => 60 - v.toNatClampNeg) ?_ fu τ 0 (by unfold fu; omega) ⟨0, rfl, by omega, h0, fun h => absurd h (Nat.lt_irrefl 1000000), fun _ _ _ => rfl⟩
  rintro τ' v ⟨j, rfl, hj, g0, g1, g2⟩
  unfold f_X6_makeFingers_s73
  refine S_chk (by decide) ?_
  rw [show (0 : Int32).toNatClampNeg = 0 by decide, g2 7 (by omega) (by omega), h1.1]
  by_cases cj : j = (KN O P Q 0).length
  · rw [cj] at g0 g1
    exact S_t (nI_le (by omega) (by omega)) (S_inr ⟨g0, g1, g2⟩)
  · have hj' : j < (KN O P Q 0).length := by omega
    have e14 : τ' 14 (nI j).toNatClampNeg = nI (C0 (KN O P Q) M c j) := by
      rw [ix_nI (by omega), g2 14 (by omega) (by omega)]
      have := h2 j hj'
      rw [Nat.mul_zero, Nat.zero_add] at this
      exact this
    have b1 : C0 (KN O P Q) M c j ≤ 1000000 := by
      have := Cn_le (M := M) (c := c) (n := 0) hK hc (hK 0 j hj')
      unfold C0
      omega
    have b2 := mnL_le (C0 (KN O P Q) M c) j
    have ms1 : 60 - (nI j + 1).toNatClampNeg < 60 - (nI j).toNatClampNeg := by
      rw [nI_1, ix_nI (show j + 1 < 2 ^ 31 by omega), ix_nI (show j < 2 ^ 31 by omega)]
      omega
    refine S_f (nI_ge hj' (by omega)) (S_chk (inb_nI (by omega) (by decide)) ?_)
    by_cases cc : C0 (KN O P Q) M c j < mnL (C0 (KN O P Q) M c) j
    · refine S_f (by rw [e14, g0]; exact nI_ge cc (by omega)) (S_chk (inb_nI (by omega) (by decide)) (S_nm (S_chk (by decide) (S_nm (S_inl ⟨⟨j + 1, nI_1 j, by omega, ?_, fun _ => ?_, fun k k1 k2 => ?_⟩, ms1⟩)))))
      · dsimp only
        rw [ms_ne (by decide), ms_eq, mnL_s, if_pos cc]
        exact e14
      · dsimp only
        rw [ms_eq, amL_s, if_pos cc]
      · dsimp only
        rw [ms_ne k2, ms_ne k1]
        exact g2 k k1 k2
    · refine S_t (by rw [e14, g0]; exact nI_le (by omega) (by omega)) (S_inl ⟨⟨j + 1, nI_1 j, by omega, ?_, fun q => ?_, g2⟩, ms1⟩)
      · rw [mnL_s, if_neg cc]
        exact g0
      · rw [mnL_s, if_neg cc] at q
        rw [amL_s, if_neg cc]
        exact g1 q
set_option maxHeartbeats 1000000 in
theorem lm158 {n : Nat} (hp : p < 3) (hn : n + 1 < c) (hf : fcost (KN O P Q) M c < 1000000) (hd : DatM τ p c O P Q M) (h1 : ∀ n, n < c → SegM τ n (decide (Q n ≠ 0)) (KN O P Q n)) (h2 : ∀ n, n < c → CsM (KN O P Q) M c τ n) (h3 : τ 15 (nI (n + 1) - 1).toNatClampNeg = nI (500 * n + chI (KN O P Q) M c n)) :
    Sat (lq1 (f_X6_makeFingers_s158 (nI p) (nI (n + 1)) τ) fu τ (500 * nI (n + 1))) (fun o => o = (τ, nI (500 * (n + 1) + chI (KN O P Q) M c (n + 1)))) := by
  have hK := KN_lt O P Q
  have hc := hd.2.2.1
  have hl := KN_len O P Q n
  have hl1 := KN_len O P Q (n + 1)
  obtain ⟨-, -, -, -, e5, e6⟩ := hd.2.2.2 (n + 1) hn
  have l0 := chI_lt hK hf n (by omega)
  have l1 := chI_lt hK hf (n + 1) hn
  obtain ⟨q1, q2, q3⟩ := chK_ok hK hf n (by omega)
  have q4 := q3 hn
  obtain ⟨u1, u2, u3⟩ := amL_ok (Gn (KN O P Q) M c (n + 1) (chK (KN O P Q) M c n)) (KN O P Q (n + 1)).length q4
  have eI : amL (Gn (KN O P Q) M c (n + 1) (chK (KN O P Q) M c n)) (KN O P Q (n + 1)).length = chI (KN O P Q) M c (n + 1) := rfl
  rw [eI] at u1 u2 u3
  rw [e500]
  have ck := chK_I (KN O P Q) M c n
  obtain ⟨t1, t2, t3⟩ := (h1 n (by omega)).2 _ l0
  have t4 := h2 n (by omega) _ l0
  rw [← ck] at t1 t3 t4
  have eC : Cn (KN O P Q) M c n (chK (KN O P Q) M c n) = extK (chK (KN O P Q) M c n) + mnL (Gn (KN O P Q) M c (n + 1) (chK (KN O P Q) M c n)) (KN O P Q (n + 1)).length := by
    rw [Cn_step hn]
    unfold cap
    rw [if_neg (by omega)]
  rw [eC] at t4
  have hxe := ext_le (k := chK (KN O P Q) M c n)
  refine S_lq1 (fun τ' b => τ' = τ ∧ ∃ j, b = nI (500 * (n + 1) + j) ∧ j ≤ chI (KN O P Q) M c (n + 1)) (fun _ b => 6060 - b.toNatClampNeg) ?_ fu τ _ (by unfold fu; omega) ⟨rfl, 0, rfl, by omega⟩
  rintro τ' b ⟨rfl, j, rfl, hj⟩
  have hj' : j < (KN O P Q (n + 1)).length := by omega
  unfold f_X6_makeFingers_s158
  rw [h3]
  have bx : 500 * n + chI (KN O P Q) M c n < 6000 := by omega
  refine S_bn1 (S_eq (comes_eq hp (show n + 1 < 12 by omega) bx (show 500 * (n + 1) + j < 6000 by omega) q1 (hK (n + 1) j hj') e6 t1 ((h1 (n + 1) hn).2 j hj').1 e5) ?_)
  dsimp only
  refine S_chk (inb_nI (by omega) (by decide)) (S_chk (inb_nI bx (by decide)) (S_chk (inb_nI bx (by decide)) ?_))
  have eG : stp (chK (KN O P Q) M c n) ((KN O P Q (n + 1)).getD j 0) (M (n + 1)) + Cn (KN O P Q) M c (n + 1) ((KN O P Q (n + 1)).getD j 0) = Gn (KN O P Q) M c (n + 1) (chK (KN O P Q) M c n) j := Nat.add_comm _ _
  have b1 := Gn_ub (M := M) (c := c) hK hc q1 hj'
  have ev : nI (stp (chK (KN O P Q) M c n) ((KN O P Q (n + 1)).getD j 0) (M (n + 1))) + τ' 14 (nI (500 * (n + 1) + j)).toNatClampNeg + τ' 10 (nI (500 * n + chI (KN O P Q) M c n)).toNatClampNeg = nI (Gn (KN O P Q) M c (n + 1) (chK (KN O P Q) M c n) j + extK (chK (KN O P Q) M c n)) := by
    rw [ix_nI (show 500 * (n + 1) + j < 2 ^ 31 by omega), ix_nI (show 500 * n + chI (KN O P Q) M c n < 2 ^ 31 by omega), h2 (n + 1) hn j hj', t3, nI_add, eG, nI_add]
  have ew : τ' 14 (nI (500 * n + chI (KN O P Q) M c n)).toNatClampNeg = nI (extK (chK (KN O P Q) M c n) + mnL (Gn (KN O P Q) M c (n + 1) (chK (KN O P Q) M c n)) (KN O P Q (n + 1)).length) := by
    rw [ix_nI (show 500 * n + chI (KN O P Q) M c n < 2 ^ 31 by omega), t4]
  by_cases cj : j = chI (KN O P Q) M c (n + 1)
  · refine S_t ?_ (S_inr ?_)
    · rw [ev, ew, cj, u2, Nat.add_comm]
    · rw [cj]
  · have := u3 j (by omega)
    refine S_f ?_ (S_inl ⟨⟨rfl, j + 1, nI_1 _, by omega⟩, ?_⟩)
    · rw [ev, ew]
      intro q
      have := (nI_eq (by omega) (by omega)).mp q
      omega
    · dsimp only
      rw [nI_1, ix_nI (show 500 * (n + 1) + j + 1 < 2 ^ 31 by omega), ix_nI (show 500 * (n + 1) + j < 2 ^ 31 by omega)]
      omega
set_option maxHeartbeats 1000000 in
theorem lm132 (hp : p < 3) (hc0 : 0 < c) (hf : fcost (KN O P Q) M c < 1000000) (hd : DatM τ p c O P Q M) (h1 : ∀ n, n < c → SegM τ n (decide (Q n ≠ 0)) (KN O P Q n)) (h2 : ∀ n, n < c → CsM (KN O P Q) M c τ n) (h3 : τ 15 0 = nI (chI (KN O P Q) M c 0)) :
    Sat (lq1 (f_X6_makeFingers_s132 (nI p)) fu τ 1) (fun τ' => (∀ n, n < c → τ' 15 n = nI (500 * n + chI (KN O P Q) M c n)) ∧ ∀ k, k ≠ 15 → τ' k = τ k) := by
  have hc := hd.2.2.1
  refine S_lq1 (fun τ' v => ∃ j, v = nI j ∧ 1 ≤ j ∧ j ≤ c ∧ (∀ n, n < j → τ' 15 n = nI (500 * n + chI (KN O P Q) M c n)) ∧ ∀ k, k ≠ 15 → τ' k = τ k) (fun _ v => 12 - v.toNatClampNeg) ?_ fu τ 1 (by unfold fu; omega) ⟨1, rfl, by omega, by omega, fun n h => ?_, fun _ _ => rfl⟩
  · rintro τ' v ⟨j, rfl, j1, hj, g1, g2⟩
    have hdat : DatM τ' p c O P Q M := FgM.dat (fun k k1 k2 => g2 k (by omega)) hd
    have d2 := hdat.2.1
    unfold f_X6_makeFingers_s132
    refine S_chk (inb_nI hp (by decide)) ?_
    rw [ix_nI (show p < 2 ^ 31 by omega), d2]
    by_cases cj : j = c
    · subst cj
      exact S_t (nI_le (by omega) (by omega)) (S_inr ⟨g1, g2⟩)
    · obtain ⟨n, rfl⟩ : ∃ n, j = n + 1 := ⟨j - 1, by omega⟩
      have hn : n + 1 < c := by omega
      refine S_f (nI_ge hn (by omega)) (S_chk (by rw [nI_pred]; exact inb_nI (by omega) (by decide)) (S_bn1 (S_mono (lm158 hp hn hf hdat (fun m hm => ?_) (fun m hm i hi => ?_) ?_) (fun o ho => ?_))))
      · have t1 := h1 m hm
        unfold SegM at t1 ⊢
        rw [g2 7 (by omega), g2 8 (by omega), g2 9 (by omega), g2 10 (by omega)]
        exact t1
      · rw [g2 14 (by omega)]
        exact h2 m hm i hi
      · rw [nI_pred, ix_nI (by omega)]
        exact g1 n (by omega)
      · subst ho
        dsimp only
        refine S_chk (inb_nI (by omega) (by decide)) (S_nm (S_inl ?_))
        rw [ix_nI (show n + 1 < 2 ^ 31 by omega)]
        refine ⟨⟨n + 1 + 1, nI_1 _, by omega, by omega, fun m hm => ?_, fun k hk => ?_⟩, ?_⟩
        · by_cases cm : m = n + 1
          · subst cm
            dsimp only
            rw [ms_eq]
          · dsimp only
            rw [ms_en cm]
            exact g1 m (by omega)
        · dsimp only
          rw [ms_ne hk]
          exact g2 k hk
        · dsimp only
          rw [nI_1, ix_nI (show n + 1 + 1 < 2 ^ 31 by omega)]
          first
            | omega
            | (rw [ix_nI (show n + 1 < 2 ^ 31 by omega)]; omega)
  · have e0 : n = 0 := by omega
    subst e0
    rw [Nat.mul_zero, Nat.zero_add]
    exact h3
set_option maxHeartbeats 1000000 in
theorem fingM (hp : p < 3) (hd : DatM τ p c O P Q M) : Sat (f_X6_makeFingers τ (nI p)) (fun o => (fcost (KN O P Q) M c < 1000000 → o.2 = 1 ∧ o.1 0 0 = nI (fcost (KN O P Q) M c) ∧ ∀ n, n < c → ∃ x, o.1 15 n = nI x ∧ x < 6000 ∧ o.1 8 x = nI (chK (KN O P Q) M c n / 10) ∧ o.1 9 x = gK (decide (Q n ≠ 0)) (chK (KN O P Q) M c n)) ∧ (¬ fcost (KN O P Q) M c < 1000000 → o.2 = 0) ∧ FgM τ o.1) := by
  have hc := hd.2.2.1
  unfold f_X6_makeFingers
  refine S_nm (S_chk (inb_nI hp (by decide)) ?_)
  rw [ms_ne (by decide), ix_nI (show p < 2 ^ 31 by omega), hd.2.1]
  have hda : DatM (ms τ 0 0 0) p c O P Q M := FgM.dat (fun k k1 k2 => ms_ne (by omega)) hd
  by_cases c0 : c = 0
  · subst c0
    refine S_t rfl (S_some ⟨fun h => ⟨rfl, ?_, fun n hn => by omega⟩, fun h => ?_, fun k k1 k2 => ms_ne (by omega)⟩)
    · dsimp only
      rw [ms_eq]
      unfold fcost
      rfl
    · exact absurd (show fcost (KN O P Q) M 0 < 1000000 by unfold fcost; rw [if_pos rfl]; omega) h
  · have ef : fcost (KN O P Q) M c = mnL (C0 (KN O P Q) M c) (KN O P Q 0).length := by
      unfold fcost
      rw [if_neg c0]
    refine S_f (nI_ne0 (by omega) (by omega)) (S_bn0 (S_mono (lm18 hp hda) (fun τ1 h1 => S_chk (inb_nI hp (by decide)) (S_bn0 ?_))))
    obtain ⟨a1, a2⟩ := h1
    have hdb : DatM τ1 p c O P Q M := FgM.dat (fun k k1 k2 => a2 k (by omega)) hda
    rw [hdb.2.1]
    refine S_mono (lm49 hp hdb a1) (fun τ2 h2 => S_nm (S_bn0 ?_))
    obtain ⟨b1, b2⟩ := h2
    have seg : ∀ τ', (∀ k, k ≠ 14 → k ≠ 0 → k ≠ 15 → τ' k = τ1 k) → ∀ n, n < c → SegM τ' n (decide (Q n ≠ 0)) (KN O P Q n) := by
      intro τ' h n hn
      have t1 := a1 n hn
      unfold SegM at t1 ⊢
      rw [h 7 (by omega) (by omega) (by omega), h 8 (by omega) (by omega) (by omega), h 9 (by omega) (by omega) (by omega), h 10 (by omega) (by omega) (by omega)]
      exact t1
    refine S_mono (lm73 (c := c) (M := M) (by omega) hc (ms_eq) (seg _ (fun k k1 k2 k3 => by rw [ms_ne k2]; exact b2 k k1) 0 (by omega)) (fun i hi => by rw [ms_ne (by decide)]; exact b1 0 (by omega) i hi)) (fun τ3 h3 => ?_)
    obtain ⟨d1, d2, d3⟩ := h3
    rw [← ef] at d1 d2
    have fr3 : ∀ k, k ≠ 14 → k ≠ 0 → k ≠ 15 → τ3 k = τ1 k := fun k k1 k2 k3 => by rw [d3 k k2 k3, ms_ne k2]; exact b2 k k1
    have hfg3 : FgM τ τ3 := fun k k1 k2 => by rw [fr3 k (by omega) (by omega) (by omega), a2 k (by omega), ms_ne (by omega)]
    have hle := fcost_le (KN O P Q) M c
    by_cases cf : fcost (KN O P Q) M c < 1000000
    · refine S_f ?_ (S_bn0 (S_mono (lm132 hp (by omega) cf (FgM.dat hfg3 hd) (seg τ3 fr3) (fun n hn i hi => ?_) (d2 cf)) (fun τ4 h4 => S_some ⟨fun _ => ⟨rfl, ?_, fun n hn => ?_⟩, fun h => absurd cf h, fun k k1 k2 => ?_⟩)))
      · rw [d1]
        exact fun q => by have := (nI_eq (b := 1000000) (by omega) (by omega)).mp q; omega
      · rw [d3 14 (by omega) (by omega), ms_ne (by decide)]
        exact b1 n hn i hi
      · dsimp only
        rw [h4.2 0 (by omega)]
        exact d1
      · have l0 := chI_lt (KN_lt O P Q) cf n hn
        have hl := KN_len O P Q n
        obtain ⟨t1, t2, t3⟩ := (seg τ3 fr3 n hn).2 _ l0
        rw [← chK_I (KN O P Q) M c n] at t1 t2
        refine ⟨500 * n + chI (KN O P Q) M c n, h4.1 n hn, by omega, ?_, ?_⟩
        · dsimp only
          rw [h4.2 8 (by omega)]
          exact t1
        · dsimp only
          rw [h4.2 9 (by omega)]
          exact t2
      · dsimp only
        rw [h4.2 k (by omega)]
        exact hfg3 k k1 k2
    · refine S_t ?_ (S_some ⟨fun h => absurd h cf, fun _ => rfl, hfg3⟩)
      rw [d1, show fcost (KN O P Q) M c = 1000000 by omega]
      rfl
end FMf
