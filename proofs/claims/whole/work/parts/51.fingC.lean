/-! ===== the class's fingering ===== -/
def KN (O : Nat → Nat) (P Q : Nat → Nat) (n : Nat) : List Nat := KL O (P n) (Q n)
theorem KN_lt (O : Nat → Nat) (P Q : Nat → Nat) : ∀ n i, i < (KN O P Q n).length → (KN O P Q n).getD i 0 < 100000 := fun _ _ h => KL_lt h
theorem KN_len (O : Nat → Nat) (P Q : Nat → Nat) (n : Nat) : (KN O P Q n).length ≤ 60 := KL_len _ _ _
/-- a part's notes, as the class holds them -/
def DatC (σ : Mm) (p c : Nat) (O : Nat → Nat) (P Q M : Nat → Nat) : Prop := (∀ s, s < 4 → σ 1 s = nI (O s) ∧ O s ≤ 60) ∧ σ (31 + 15 * p) 0 = nI c ∧ c ≤ 12 ∧ ∀ n, n < c → σ (31 + 15 * p + 1) n = nI (P n) ∧ P n ≤ 80 ∧ σ (31 + 15 * p + 2) n = qI (Q n) ∧ Q n ≤ 80 ∧ σ (31 + 15 * p + 5) n = nI (M n) ∧ M n < 16
/-- what the desk may write -/
def FgC (σ σ' : Mm) (p : Nat) : Prop := ∀ k, k ≠ 5 → (k < 7 ∨ 31 ≤ k) → k ≠ 31 + 15 * p + 6 → σ' k = σ k
theorem FgC.dat {σ σ' : Mm} {p c : Nat} {O P Q M : Nat → Nat} (hp : p < 3) (h : FgC σ σ' p) (hd : DatC σ p c O P Q M) : DatC σ' p c O P Q M := by
  obtain ⟨h1, h2, h3, h4⟩ := hd
  refine ⟨fun s hs => ?_, ?_, h3, fun n hn => ?_⟩
  · rw [h 1 (by omega) (by omega) (by omega)]
    exact h1 s hs
  · rw [h _ (by omega) (by omega) (by omega)]
    exact h2
  · rw [h _ (by omega) (by omega) (by omega), h (31 + 15 * p + 2) (by omega) (by omega) (by omega), h (31 + 15 * p + 5) (by omega) (by omega) (by omega)]
    exact h4 n hn
def CsC (K : Nat → List Nat) (M : Nat → Nat) (c : Nat) (σ : Mm) (n : Nat) : Prop := ∀ i, i < (K n).length → σ (19 + n) i = nI (Cn K M c n ((K n).getD i 0))
section FCs
variable {σ : Mm} {p c : Nat} {O P Q M : Nat → Nat}
theorem Gn_ub {K : Nat → List Nat} {M : Nat → Nat} {c n b i : Nat} (hK : ∀ n i, i < (K n).length → (K n).getD i 0 < 100000) (hc : c ≤ 12) (hb : b < 100000) (hi : i < (K n).length) : Gn K M c n b i ≤ 2000000 := by
  have h1 := Cn_le (M := M) (c := c) (n := n) hK hc (hK n i hi)
  have h2 := stp_ub (mk := M n) hb (hK n i hi)
  unfold Gn
  omega
set_option maxHeartbeats 1000000 in
theorem leastBehindC {n b : Nat} (hp : p < 3) (hn : n + 1 < c) (hb : b < 100000) (hd : DatC σ p c O P Q M) (h1 : SegC σ (n + 1) (KN O P Q (n + 1))) (h2 : CsC (KN O P Q) M c σ (n + 1)) : Sat (lq2 (f_X1_costFrom_s24 (nI n) (31 + 15 * p) (nI b)) fu σ 1000000 0) (fun o => o = (σ, nI (mnL (Gn (KN O P Q) M c (n + 1) b) (KN O P Q (n + 1)).length))) := by
  obtain ⟨d1, d2, d3, d4⟩ := hd
  obtain ⟨-, -, -, -, e5, e6⟩ := d4 (n + 1) hn
  have hl := KN_len O P Q (n + 1)
  have hK := KN_lt O P Q
  refine S_lq2 (fun σ' v i => σ' = σ ∧ ∃ j, i = nI j ∧ j ≤ (KN O P Q (n + 1)).length ∧ v = nI (mnL (Gn (KN O P Q) M c (n + 1) b) j)) (fun _ _ i => 60 - i.toNatClampNeg) ?_ fu σ 1000000 0 (by unfold fu; omega) ⟨rfl, 0, rfl, by omega, rfl⟩
  rintro σ' v i ⟨rfl, j, rfl, hj, rfl⟩
  unfold f_X1_costFrom_s24
  rw [show nI n + 1 = nI (n + 1) from nI_1 n, ix_nI (show n + 1 < 2 ^ 31 by omega)]
  refine S_chk (inC_5 (by omega)) ?_
  rw [h1.1]
  by_cases cj : j = (KN O P Q (n + 1)).length
  · refine S_t (nI_le (by omega) (by omega)) (S_inr ?_)
    rw [cj]
  · have hj' : j < (KN O P Q (n + 1)).length := by omega
    have ms1 : 60 - (nI j + 1).toNatClampNeg < 60 - (nI j).toNatClampNeg := by
      rw [nI_1, ix_nI (show j + 1 < 2 ^ 31 by omega), ix_nI (show j < 2 ^ 31 by omega)]
      omega
    have ms2 : 60 - (nI j + 1).toNatClampNeg < 60 - j := by
      rw [nI_1, ix_nI (show j + 1 < 2 ^ 31 by omega)]
      omega
    refine S_f (nI_ge hj' (by omega)) (S_chk (inb_nI (by omega) (by decide)) (S_chk (inC_19 (by omega) (by omega)) (S_chk (inb_nI (by omega) (by decide)) (S_chk (inC_7 (by omega) (by omega)) (S_chk (inC_p hp (by decide) (by decide) (by omega)) (S_bn1 ?_))))))
    rw [ix_nI (show j < 2 ^ 31 by omega), h1.2 j hj', e5]
    refine S_eq (step_eq hb (hK (n + 1) j hj') e6) (S_inl ?_)
    dsimp only
    have eG : σ' (19 + (n + 1)) j + nI (stp b ((KN O P Q (n + 1)).getD j 0) (M (n + 1))) = nI (Gn (KN O P Q) M c (n + 1) b j) := by
      rw [h2 j hj', nI_add]
      rfl
    rw [eG]
    have b1 := Gn_ub (M := M) (c := c) hK d3 hb hj'
    have b2 := mnL_le (Gn (KN O P Q) M c (n + 1) b) j
    refine ⟨⟨rfl, j + 1, nI_1 j, by omega, ?_⟩, by first | exact ms1 | exact ms2⟩
    rw [mnL_s]
    by_cases cc : Gn (KN O P Q) M c (n + 1) b j < mnL (Gn (KN O P Q) M c (n + 1) b) j
    · rw [if_pos (nI_lt cc (by omega)), if_pos cc]
    · rw [if_neg (nI_nlt (by omega) (by omega)), if_neg cc]
set_option maxHeartbeats 1000000 in
theorem costFromC {n b : Nat} (hp : p < 3) (hn : n < c) (hb : b < 100000) (hd : DatC σ p c O P Q M) (h2 : n + 1 < c → SegC σ (n + 1) (KN O P Q (n + 1)) ∧ CsC (KN O P Q) M c σ (n + 1)) : f_X1_costFrom σ (31 + 15 * p) (nI n) (nI b) = some (σ, nI (Cn (KN O P Q) M c n b)) := by
  have hc := hd.2.2.1
  have hK := KN_lt O P Q
  have hxe := ext_le (k := b)
  have key : Sat (f_X1_costFrom σ (31 + 15 * p) (nI n) (nI b)) (fun o => o = (σ, nI (Cn (KN O P Q) M c n b))) := by
    have behind : ∃ w, Sat (if nI c ≤ nI (n + 1) then some (σ, 0) else bn1 (lq2 (f_X1_costFrom_s24 (nI n) (31 + 15 * p) (nI b)) fu σ 1000000 0) (fun σ5 v5_5 => some (σ5, v5_5))) (fun o => o = (σ, nI w)) ∧ w ≤ 1000000 ∧ (if w + extK b < 1000000 then w + extK b else 1000000) = Cn (KN O P Q) M c n b := by
      by_cases cl : n + 1 = c
      · refine ⟨0, S_t (nI_le (by omega) (by omega)) (S_some rfl), by omega, ?_⟩
        rw [Cn_last cl, if_pos (by omega), Nat.zero_add]
      · have hn1 : n + 1 < c := by omega
        obtain ⟨s1, s2⟩ := h2 hn1
        refine ⟨mnL (Gn (KN O P Q) M c (n + 1) b) (KN O P Q (n + 1)).length, ?_, mnL_le _ _, ?_⟩
        · refine S_f (nI_ge hn1 (by omega)) (S_bn1 (S_mono (leastBehindC hp hn1 hb hd s1 s2) (fun o ho => ?_)))
          subst ho
          exact S_some rfl
        · rw [Cn_step hn1]
          unfold cap
          have hle := mnL_le (Gn (KN O P Q) M c (n + 1) b) (KN O P Q (n + 1)).length
          by_cases cm : 1000000 ≤ mnL (Gn (KN O P Q) M c (n + 1) b) (KN O P Q (n + 1)).length
          · rw [if_pos cm, if_neg (by omega)]
          · rw [if_neg cm]
            obtain ⟨q1, q2, -⟩ := amL_ok (Gn (KN O P Q) M c (n + 1) b) (KN O P Q (n + 1)).length (by omega)
            have q3 := Cn_le (M := M) (c := c) (n := n + 1) hK hc (hK (n + 1) _ q1)
            have q4 := stp_le (mk := M (n + 1)) hb (hK (n + 1) _ q1)
            have q5 : Gn (KN O P Q) M c (n + 1) b (amL (Gn (KN O P Q) M c (n + 1) b) (KN O P Q (n + 1)).length) = Cn (KN O P Q) M c (n + 1) ((KN O P Q (n + 1)).getD (amL (Gn (KN O P Q) M c (n + 1) b) (KN O P Q (n + 1)).length) 0) + stp b ((KN O P Q (n + 1)).getD (amL (Gn (KN O P Q) M c (n + 1) b) (KN O P Q (n + 1)).length) 0) (M (n + 1)) := rfl
            rw [if_pos (by omega), Nat.add_comm]
    obtain ⟨w, hw1, hw2, hw3⟩ := behind
    unfold f_X1_costFrom
    rw [show nI n + 1 = nI (n + 1) from nI_1 n, hd.2.1]
    refine S_chk (by rw [kd_part hp]; rfl) (S_bn1 (S_mono hw1 (fun o ho => ?_)))
    subst ho
    dsimp only
    refine S_bn1 (S_eq (exts_eq hb) (S_some ?_))
    dsimp only
    have ev : (if nI w + nI (extK b) < 1000000 then nI w + nI (extK b) else 1000000) = nI (Cn (KN O P Q) M c n b) := by
      rw [← hw3, nI_add]
      by_cases cc : w + extK b < 1000000
      · rw [if_pos (show nI (w + extK b) < 1000000 from nI_lt (b := 1000000) cc (by decide)), if_pos cc]
      · rw [if_neg (show ¬ nI (w + extK b) < 1000000 from nI_nlt (b := 1000000) (by omega) (by omega)), if_neg cc]
        rfl
    rw [ev]
  obtain ⟨o, ho, rfl⟩ := key
  exact ho
set_option maxHeartbeats 1000000 in
theorem leastNextC {n b : Nat} (hp : p < 3) (hn : n < c) (hb : b < 100000) (hd : DatC σ p c O P Q M) (h1 : SegC σ n (KN O P Q n)) (h2 : CsC (KN O P Q) M c σ n) : ∃ r, f_X1_leastNext σ (31 + 15 * p) (nI n) (nI b) = some (σ, r) ∧ (mnL (Gn (KN O P Q) M c n b) (KN O P Q n).length < 1000000 → r = nI ((KN O P Q n).getD (amL (Gn (KN O P Q) M c n b) (KN O P Q n).length) 0)) := by
  obtain ⟨d1, d2, d3, d4⟩ := hd
  obtain ⟨-, -, -, -, e5, e6⟩ := d4 n hn
  have hl := KN_len O P Q n
  have hK := KN_lt O P Q
  have key : Sat (f_X1_leastNext σ (31 + 15 * p) (nI n) (nI b)) (fun o => o.1 = σ ∧ (mnL (Gn (KN O P Q) M c n b) (KN O P Q n).length < 1000000 → o.2 = nI ((KN O P Q n).getD (amL (Gn (KN O P Q) M c n b) (KN O P Q n).length) 0))) := by
    unfold f_X1_leastNext
    refine S_bn1 ?_
    refine S_lq3 (fun σ' v k i => σ' = σ ∧ ∃ j, i = nI j ∧ j ≤ (KN O P Q n).length ∧ v = nI (mnL (Gn (KN O P Q) M c n b) j) ∧ (mnL (Gn (KN O P Q) M c n b) j < 1000000 → k = nI ((KN O P Q n).getD (amL (Gn (KN O P Q) M c n b) j) 0))) (fun _ _ _ i => 60 - i.toNatClampNeg) ?_ fu σ 1000000 0 0 (by unfold fu; omega) ⟨rfl, 0, rfl, by omega, rfl, fun h => absurd h (Nat.lt_irrefl 1000000)⟩
    rintro σ' v k i ⟨rfl, j, rfl, hj, rfl, hk⟩
    unfold f_X1_leastNext_s10
    refine S_chk (inC_5 (by omega)) ?_
    rw [ix_nI (show n < 2 ^ 31 by omega), h1.1]
    by_cases cj : j = (KN O P Q n).length
    · refine S_t (nI_le (by omega) (by omega)) (S_inr (S_some ?_))
      rw [← cj]
      exact ⟨rfl, hk⟩
    · have hj' : j < (KN O P Q n).length := by omega
      refine S_f (nI_ge hj' (by omega)) (S_chk (inb_nI (by omega) (by decide)) (S_chk (inC_19 (by omega) (by omega)) (S_chk (inb_nI (by omega) (by decide)) (S_chk (inC_7 (by omega) (by omega)) (S_chk (by rw [kd_part hp]; rfl) (S_chk (inC_p hp (by decide) (by decide) (by omega)) (S_bn1 ?_)))))))
      rw [ix_nI (show j < 2 ^ 31 by omega), h1.2 j hj', e5]
      refine S_eq (step_eq hb (hK n j hj') e6) ?_
      dsimp only
      have eG : σ' (19 + n) j + nI (stp b ((KN O P Q n).getD j 0) (M n)) = nI (Gn (KN O P Q) M c n b j) := by
        rw [h2 j hj', nI_add]
        rfl
      rw [eG]
      have b1 := Gn_ub (M := M) (c := c) hK d3 hb hj'
      have b2 := mnL_le (Gn (KN O P Q) M c n b) j
      have ms1 : 60 - (nI j + 1).toNatClampNeg < 60 - (nI j).toNatClampNeg := by
        rw [nI_1, ix_nI (show j + 1 < 2 ^ 31 by omega), ix_nI (show j < 2 ^ 31 by omega)]
        omega
      have ms2 : 60 - (nI j + 1).toNatClampNeg < 60 - j := by
        rw [nI_1, ix_nI (show j + 1 < 2 ^ 31 by omega)]
        omega
      by_cases cc : Gn (KN O P Q) M c n b j < mnL (Gn (KN O P Q) M c n b) j
      · refine S_f (nI_ge cc (by omega)) (S_chk (inb_nI (by omega) (by decide)) (S_chk (inC_7 (by omega) (by omega)) (S_inl ⟨⟨rfl, j + 1, nI_1 j, by omega, ?_, fun _ => ?_⟩, by first | exact ms1 | exact ms2⟩)))
        · rw [mnL_s, if_pos cc]
        · rw [amL_s, if_pos cc]
          first | exact h1.2 j hj' | rfl | (rw [ix_nI (show j < 2 ^ 31 by omega)]; exact h1.2 j hj')
      · refine S_t (nI_le (by omega) (by omega)) (S_inl ⟨⟨rfl, j + 1, nI_1 j, by omega, ?_, fun q => ?_⟩, by first | exact ms1 | exact ms2⟩)
        · rw [mnL_s, if_neg cc]
        · rw [mnL_s, if_neg cc] at q
          rw [amL_s, if_neg cc]
          exact hk q
  obtain ⟨o, ho, h3, h4⟩ := key
  obtain ⟨o1, o2⟩ := o
  dsimp only at h3 h4
  subst h3
  exact ⟨o2, ho, h4⟩
set_option maxHeartbeats 1000000 in
theorem reckonC {n : Nat} (hp : p < 3) (hn : n < c) (hd : DatC σ p c O P Q M) (h1 : SegC σ n (KN O P Q n)) (h2 : n + 1 < c → SegC σ (n + 1) (KN O P Q (n + 1)) ∧ CsC (KN O P Q) M c σ (n + 1)) : Sat (lq1 (f_X1_findFingering_s31 (nI n) (31 + 15 * p)) fu σ 0) (fun σ' => CsC (KN O P Q) M c σ' n ∧ ∀ k, k ≠ 19 + n → σ' k = σ k) := by
  have hc := hd.2.2.1
  have hl := KN_len O P Q n
  have hK := KN_lt O P Q
  refine S_lq1 (fun σ' v => ∃ j, v = nI j ∧ j ≤ (KN O P Q n).length ∧ (∀ i, i < j → σ' (19 + n) i = nI (Cn (KN O P Q) M c n ((KN O P Q n).getD i 0))) ∧ ∀ k, k ≠ 19 + n → σ' k = σ k) (fun _ v => 60 - v.toNatClampNeg) ?_ fu σ 0 (by unfold fu; omega) ⟨0, rfl, by omega, fun i hi => by omega, fun _ _ => rfl⟩
  rintro σ' v ⟨j, rfl, hj, g1, g2⟩
  unfold f_X1_findFingering_s31
  refine S_chk (inC_5 (by omega)) ?_
  rw [ix_nI (show n < 2 ^ 31 by omega), g2 5 (by omega), h1.1]
  by_cases cj : j = (KN O P Q n).length
  · refine S_t (nI_le (by omega) (by omega)) (S_inr ⟨fun i hi => ?_, g2⟩)
    exact g1 i (by omega)
  · have hj' : j < (KN O P Q n).length := by omega
    have hx := hK n j hj'
    refine S_f (nI_ge hj' (by omega)) (S_chk (inb_nI (by omega) (by decide)) (S_chk (inb_nI (by omega) (by decide)) (S_chk (inC_7 (by omega) (by omega)) (S_bn1 ?_))))
    rw [ix_nI (show j < 2 ^ 31 by omega), g2 (7 + n) (by omega), h1.2 j hj']
    have hdat : DatC σ' p c O P Q M := by
      obtain ⟨a1, a2, a3, a4⟩ := hd
      refine ⟨fun s hs => ?_, ?_, a3, fun m hm => ?_⟩
      · rw [g2 1 (by omega)]
        exact a1 s hs
      · rw [g2 _ (by omega)]
        exact a2
      · rw [g2 _ (by omega), g2 (31 + 15 * p + 2) (by omega), g2 (31 + 15 * p + 5) (by omega)]
        exact a4 m hm
    have h2' : n + 1 < c → SegC σ' (n + 1) (KN O P Q (n + 1)) ∧ CsC (KN O P Q) M c σ' (n + 1) := fun hn1 => by
      obtain ⟨s1, s2⟩ := h2 hn1
      exact ⟨⟨by rw [g2 5 (by omega)]; exact s1.1, fun i hi => by rw [g2 _ (by omega)]; exact s1.2 i hi⟩, fun i hi => by rw [g2 _ (by omega)]; exact s2 i hi⟩
    refine S_eq (costFromC hp hn hx hdat h2') ?_
    dsimp only
    refine S_chk (inC_19 (by omega) (by omega)) (S_nm (S_inl ?_))
    dsimp only
    refine ⟨⟨j + 1, nI_1 j, by omega, fun i hi => ?_, fun k hk => ?_⟩, ?_⟩
    · by_cases ci : i = j
      · subst ci
        rw [ms_eq]
      · rw [ms_en ci]
        exact g1 i (by omega)
    · rw [ms_ne hk]
      exact g2 k hk
    · rw [nI_1, ix_nI (show j + 1 < 2 ^ 31 by omega)]
      omega
end FCs
