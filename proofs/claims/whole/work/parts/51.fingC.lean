/-! ===== the class's fingering ===== -/
def KN (O : Nat → Nat) (P Q : Nat → Nat) (n : Nat) : List Nat := KL O (P n) (Q n)
theorem KN_lt (O : Nat → Nat) (P Q : Nat → Nat) : ∀ n i, i < (KN O P Q n).length → (KN O P Q n).getD i 0 < 100000 := fun _ _ h => KL_lt h
theorem KN_len (O : Nat → Nat) (P Q : Nat → Nat) (n : Nat) : (KN O P Q n).length ≤ 60 := KL_len _ _ _
/-- a part's notes, as the class holds them -/
def DatC (σ : Mm) (p c : Nat) (O : Nat → Nat) (P Q M : Nat → Nat) : Prop := (∀ s, s < 4 → σ 1 s = nI (O s) ∧ O s ≤ 60) ∧ σ (31 + 15 * p) 0 = nI c ∧ c ≤ 12 ∧ ∀ n, n < c → σ (31 + 15 * p + 1) n = nI (P n) ∧ P n ≤ 80 ∧ σ (31 + 15 * p + 2) n = qI (Q n) ∧ Q n ≤ 80 ∧ σ (31 + 15 * p + 5) n = nI (M n) ∧ M n < 16
/-- what the desk may write -/
def FgC (σ σ' : Mm) (p : Nat) : Prop := ∀ k, k ≠ 5 → (k < 7 ∨ 31 ≤ k) → k ≠ 31 + 15 * p + 6 → σ' k = σ k
theorem FgC.dat {σ σ' : Mm} {p c : Nat} {O P Q M : Nat → Nat} (hp : p < 3) (h : FgC σ σ' p) (hd : DatC σ p c O P Q M) : DatC σ' p c O P Q M := by
  obtain ⟨h1, h2, h3, h4⟩ := hd
  refine ⟨fun s hs => ?_, ?_, h3, fun n hn => ?_⟩
  · rw [h 1 (by omega) (by omega) (by omega)]
    exact h1 s hs
  · rw [h _ (by omega) (by omega) (by omega)]
    exact h2
  · rw [h _ (by omega) (by omega) (by omega), h (31 + 15 * p + 2) (by omega) (by omega) (by omega), h (31 + 15 * p + 5) (by omega) (by omega) (by omega)]
    exact h4 n hn
def CsC (K : Nat → List Nat) (M : Nat → Nat) (c : Nat) (σ : Mm) (n : Nat) : Prop := ∀ i, i < (K n).length → σ (19 + n) i = nI (Cn K M c n ((K n).getD i 0))
theorem costFromC {σ : Mm} {p n i b v mk x : Nat} (hp : p < 3) (hn : n < 12) (hi : i < 60) (hb : b < 100000) (hx : x < 100000) (hm : mk < 16) (e1 : σ (7 + n) i = nI x) (e2 : σ (19 + n) i = nI v) (e3 : σ (31 + 15 * p + 5) n = nI mk) : f_X1_costFrom σ (31 + 15 * p) (nI n) (nI b) (nI i) = some (σ, nI (v + stp b x mk)) := by
  unfold f_X1_costFrom
  rw [ix_nI (show n < 2 ^ 31 by omega), chk_t (inb_nI hn (by decide)), chk_t (inC_19 hn hi), chk_t (inb_nI hn (by decide)), chk_t (inC_7 hn hi), chk_t (by rw [kd_part hp]; rfl), chk_t (inC_p hp (by decide) (by decide) hn), ix_nI (show i < 2 ^ 31 by omega), e1, e3, E_bn1 (step_eq hb hx hm), e2, nI_add]
section FCs
variable {σ : Mm} {p c : Nat} {O P Q M : Nat → Nat}
theorem Gn_ub {K : Nat → List Nat} {M : Nat → Nat} {c n b i : Nat} (hK : ∀ n i, i < (K n).length → (K n).getD i 0 < 100000) (hc : c ≤ 12) (hb : b < 100000) (hi : i < (K n).length) : Gn K M c n b i ≤ 2000000 := by
  have h1 := Cn_le (M := M) (c := c) (n := n) hK hc (hK n i hi)
  have h2 := stp_ub (mk := M n) hb (hK n i hi)
  unfold Gn
  omega
set_option maxHeartbeats 1000000 in
theorem leastBehindC {n b : Nat} (hp : p < 3) (hn : n < c) (hb : b < 100000) (hd : DatC σ p c O P Q M) (h1 : SegC σ n (KN O P Q n)) (h2 : CsC (KN O P Q) M c σ n) : f_X1_leastBehind σ (31 + 15 * p) (nI n) (nI b) = some (σ, nI (mnL (Gn (KN O P Q) M c n b) (KN O P Q n).length)) := by
  obtain ⟨d1, d2, d3, d4⟩ := hd
  obtain ⟨-, -, -, -, e5, e6⟩ := d4 n hn
  have hl := KN_len O P Q n
  have hK := KN_lt O P Q
  have key : Sat (f_X1_leastBehind σ (31 + 15 * p) (nI n) (nI b)) (fun o => o = (σ, nI (mnL (Gn (KN O P Q) M c n b) (KN O P Q n).length))) := by
    unfold f_X1_leastBehind
    refine S_bn1 ?_
    refine S_lq2 (fun σ' v i => σ' = σ ∧ ∃ j, i = nI j ∧ j ≤ (KN O P Q n).length ∧ v = nI (mnL (Gn (KN O P Q) M c n b) j)) (fun _ _ i => 60 - i.toNatClampNeg) ?_ fu σ 1000000 0 (by unfold fu; omega) ⟨rfl, 0, rfl, by omega, rfl⟩
    rintro σ' v i ⟨rfl, j, rfl, hj, rfl⟩
    unfold f_X1_leastBehind_s7
    refine S_chk (inC_5 (by omega)) ?_
    rw [ix_nI (show n < 2 ^ 31 by omega), h1.1]
    by_cases cj : j = (KN O P Q n).length
    · refine S_t (nI_le (by omega) (by omega)) (S_inr (S_some ?_))
      rw [cj]
    · have hj' : j < (KN O P Q n).length := by omega
      refine S_f (nI_ge hj' (by omega)) (S_bn1 (S_eq (costFromC hp (by omega) (by omega) hb (hK n j hj') e6 (h1.2 j hj') (h2 j hj') e5) (S_inl ?_)))
      dsimp only
      have eG : Cn (KN O P Q) M c n ((KN O P Q n).getD j 0) + stp b ((KN O P Q n).getD j 0) (M n) = Gn (KN O P Q) M c n b j := rfl
      rw [eG]
      have b1 := Gn_ub (M := M) (c := c) hK d3 hb hj'
      have b2 := mnL_le (Gn (KN O P Q) M c n b) j
      refine ⟨⟨rfl, j + 1, nI_1 j, by omega, ?_⟩, ?_⟩
      · rw [mnL_s]
        by_cases cc : Gn (KN O P Q) M c n b j < mnL (Gn (KN O P Q) M c n b) j
        · rw [if_pos (nI_lt cc (by omega)), if_pos cc]
        · rw [if_neg (nI_nlt (by omega) (by omega)), if_neg cc]
      · rw [nI_1, ix_nI (show j + 1 < 2 ^ 31 by omega), ix_nI (show j < 2 ^ 31 by omega)]
        omega
  obtain ⟨o, ho, rfl⟩ := key
  exact ho
set_option maxHeartbeats 1000000 in
theorem leastNextC {n b : Nat} (hp : p < 3) (hn : n < c) (hb : b < 100000) (hd : DatC σ p c O P Q M) (h1 : SegC σ n (KN O P Q n)) (h2 : CsC (KN O P Q) M c σ n) : ∃ r, f_X1_leastNext σ (31 + 15 * p) (nI n) (nI b) = some (σ, r) ∧ (mnL (Gn (KN O P Q) M c n b) (KN O P Q n).length < 1000000 → r = nI ((KN O P Q n).getD (amL (Gn (KN O P Q) M c n b) (KN O P Q n).length) 0)) := by
  obtain ⟨d1, d2, d3, d4⟩ := hd
  obtain ⟨-, -, -, -, e5, e6⟩ := d4 n hn
  have hl := KN_len O P Q n
  have hK := KN_lt O P Q
  have key : Sat (f_X1_leastNext σ (31 + 15 * p) (nI n) (nI b)) (fun o => o.1 = σ ∧ (mnL (Gn (KN O P Q) M c n b) (KN O P Q n).length < 1000000 → o.2 = nI ((KN O P Q n).getD (amL (Gn (KN O P Q) M c n b) (KN O P Q n).length) 0))) := by
    unfold f_X1_leastNext
    refine S_bn1 ?_
    refine S_lq3 (fun σ' v k i => σ' = σ ∧ ∃ j, i = nI j ∧ j ≤ (KN O P Q n).length ∧ v = nI (mnL (Gn (KN O P Q) M c n b) j) ∧ (mnL (Gn (KN O P Q) M c n b) j < 1000000 → k = nI ((KN O P Q n).getD (amL (Gn (KN O P Q) M c n b) j) 0))) (fun _ _ _ i => 60 - i.toNatClampNeg) ?_ fu σ 1000000 0 0 (by unfold fu; omega) ⟨rfl, 0, rfl, by omega, rfl, fun h => absurd h (Nat.lt_irrefl 1000000)⟩
    rintro σ' v k i ⟨rfl, j, rfl, hj, rfl, hk⟩
    unfold f_X1_leastNext_s10
    refine S_chk (inC_5 (by omega)) ?_
    rw [ix_nI (show n < 2 ^ 31 by omega), h1.1]
    by_cases cj : j = (KN O P Q n).length
    · refine S_t (nI_le (by omega) (by omega)) (S_inr (S_some ?_))
      rw [← cj]
      exact ⟨rfl, hk⟩
    · have hj' : j < (KN O P Q n).length := by omega
      refine S_f (nI_ge hj' (by omega)) (S_bn1 (S_eq (costFromC hp (by omega) (by omega) hb (hK n j hj') e6 (h1.2 j hj') (h2 j hj') e5) ?_))
      dsimp only
      have eG : Cn (KN O P Q) M c n ((KN O P Q n).getD j 0) + stp b ((KN O P Q n).getD j 0) (M n) = Gn (KN O P Q) M c n b j := rfl
      rw [eG]
      have b1 := Gn_ub (M := M) (c := c) hK d3 hb hj'
      have b2 := mnL_le (Gn (KN O P Q) M c n b) j
      have ms1 : 60 - (nI j + 1).toNatClampNeg < 60 - (nI j).toNatClampNeg := by
        rw [nI_1, ix_nI (show j + 1 < 2 ^ 31 by omega), ix_nI (show j < 2 ^ 31 by omega)]
        omega
      by_cases cc : Gn (KN O P Q) M c n b j < mnL (Gn (KN O P Q) M c n b) j
      · refine S_f (nI_ge cc (by omega)) (S_chk (inb_nI (by omega) (by decide)) (S_chk (inC_7 (by omega) (by omega)) (S_inl ⟨⟨rfl, j + 1, nI_1 j, by omega, ?_, fun _ => ?_⟩, ms1⟩)))
        · rw [mnL_s, if_pos cc]
        · rw [amL_s, if_pos cc, ix_nI (show j < 2 ^ 31 by omega)]
          exact h1.2 j hj'
      · refine S_t (nI_le (by omega) (by omega)) (S_inl ⟨⟨rfl, j + 1, nI_1 j, by omega, ?_, fun q => ?_⟩, ms1⟩)
        · rw [mnL_s, if_neg cc]
        · rw [mnL_s, if_neg cc] at q
          rw [amL_s, if_neg cc]
          exact hk q
  obtain ⟨o, ho, h3, h4⟩ := key
  obtain ⟨o1, o2⟩ := o
  dsimp only at h3 h4
  subst h3
  exact ⟨o2, ho, h4⟩
set_option maxHeartbeats 1000000 in
theorem reckonC {n : Nat} (hp : p < 3) (hn : n < c) (hd : DatC σ p c O P Q M) (h1 : SegC σ n (KN O P Q n)) (h2 : n + 1 < c → SegC σ (n + 1) (KN O P Q (n + 1)) ∧ CsC (KN O P Q) M c σ (n + 1)) : Sat (f_X1_reckonCosts σ (31 + 15 * p) (nI n) (if n + 1 = c then 1 else 0)) (fun σ' => CsC (KN O P Q) M c σ' n ∧ ∀ k, k ≠ 19 + n → σ' k = σ k) := by
  have hc := hd.2.2.1
  have hl := KN_len O P Q n
  have hK := KN_lt O P Q
  unfold f_X1_reckonCosts
  refine S_bn0 ?_
  refine S_lq1 (fun σ' v => ∃ j, v = nI j ∧ j ≤ (KN O P Q n).length ∧ (∀ i, i < j → σ' (19 + n) i = nI (Cn (KN O P Q) M c n ((KN O P Q n).getD i 0))) ∧ ∀ k, k ≠ 19 + n → σ' k = σ k) (fun _ v => 60 - v.toNatClampNeg) ?_ fu σ 0 (by unfold fu; omega) ⟨0, rfl, by omega, fun i hi => by omega, fun _ _ => rfl⟩
  rintro σ' v ⟨j, rfl, hj, g1, g2⟩
  unfold f_X1_reckonCosts_s3
  refine S_chk (inC_5 (by omega)) ?_
  rw [ix_nI (show n < 2 ^ 31 by omega), g2 5 (by omega), h1.1]
  by_cases cj : j = (KN O P Q n).length
  · refine S_t (nI_le (by omega) (by omega)) (S_inr (S_some ⟨fun i hi => ?_, g2⟩))
    exact g1 i (by omega)
  · have hj' : j < (KN O P Q n).length := by omega
    have hx := hK n j hj'
    refine S_f (nI_ge hj' (by omega)) (S_chk (inb_nI (by omega) (by decide)) (S_chk (inC_7 (by omega) (by omega)) (S_bn1 ?_)))
    rw [ix_nI (show j < 2 ^ 31 by omega), g2 (7 + n) (by omega), h1.2 j hj']
    have hdat : DatC σ' p c O P Q M := by
      obtain ⟨a1, a2, a3, a4⟩ := hd
      refine ⟨fun s hs => ?_, ?_, a3, fun m hm => ?_⟩
      · rw [g2 1 (by omega)]
        exact a1 s hs
      · rw [g2 _ (by omega)]
        exact a2
      · rw [g2 _ (by omega), g2 (31 + 15 * p + 2) (by omega), g2 (31 + 15 * p + 5) (by omega)]
        exact a4 m hm
    have behind : ∃ b, Sat (if (if n + 1 = c then (1 : Int32) else 0) = 0 then bn1 (f_X1_leastBehind σ' (31 + 15 * p) (nI n + 1) (nI ((KN O P Q n).getD j 0))) (fun σ11 r11 => some (σ11, r11)) else some (σ', 0)) (fun o => o = (σ', nI b)) ∧ b ≤ 1000000 ∧ (if extK ((KN O P Q n).getD j 0) + b < 1000000 then extK ((KN O P Q n).getD j 0) + b else 1000000) = Cn (KN O P Q) M c n ((KN O P Q n).getD j 0) := by
      have hxe := ext_le (k := (KN O P Q n).getD j 0)
      by_cases cl : n + 1 = c
      · refine ⟨0, ?_, by omega, ?_⟩
        · rw [if_pos cl]
          exact S_f (by decide) (S_some rfl)
        · rw [Cn_last cl, if_pos (by omega), Nat.add_zero]
      · have hn1 : n + 1 < c := by omega
        obtain ⟨s1, s2⟩ := h2 hn1
        have s1' : SegC σ' (n + 1) (KN O P Q (n + 1)) := ⟨by rw [g2 5 (by omega)]; exact s1.1, fun i hi => by rw [g2 _ (by omega)]; exact s1.2 i hi⟩
        have s2' : CsC (KN O P Q) M c σ' (n + 1) := fun i hi => by rw [g2 _ (by omega)]; exact s2 i hi
        refine ⟨mnL (Gn (KN O P Q) M c (n + 1) ((KN O P Q n).getD j 0)) (KN O P Q (n + 1)).length, ?_, mnL_le _ _, ?_⟩
        · rw [if_neg cl]
          refine S_t rfl ?_
          rw [nI_1]
          exact S_bn1 (S_eq (leastBehindC hp hn1 hx hdat s1' s2') (S_some rfl))
        · rw [Cn_step hn1]
          unfold cap
          have hle := mnL_le (Gn (KN O P Q) M c (n + 1) ((KN O P Q n).getD j 0)) (KN O P Q (n + 1)).length
          by_cases cm : 1000000 ≤ mnL (Gn (KN O P Q) M c (n + 1) ((KN O P Q n).getD j 0)) (KN O P Q (n + 1)).length
          · rw [if_pos cm, if_neg (by omega)]
          · rw [if_neg cm]
            obtain ⟨q1, q2, -⟩ := amL_ok (Gn (KN O P Q) M c (n + 1) ((KN O P Q n).getD j 0)) (KN O P Q (n + 1)).length (by omega)
            have q3 := Cn_le (M := M) (c := c) (n := n + 1) hK hc (hK (n + 1) _ q1)
            have q4 := stp_le (mk := M (n + 1)) hx (hK (n + 1) _ q1)
            have q5 : Gn (KN O P Q) M c (n + 1) ((KN O P Q n).getD j 0) (amL (Gn (KN O P Q) M c (n + 1) ((KN O P Q n).getD j 0)) (KN O P Q (n + 1)).length) = Cn (KN O P Q) M c (n + 1) ((KN O P Q (n + 1)).getD (amL (Gn (KN O P Q) M c (n + 1) ((KN O P Q n).getD j 0)) (KN O P Q (n + 1)).length) 0) + stp ((KN O P Q n).getD j 0) ((KN O P Q (n + 1)).getD (amL (Gn (KN O P Q) M c (n + 1) ((KN O P Q n).getD j 0)) (KN O P Q (n + 1)).length) 0) (M (n + 1)) := rfl
            rw [if_pos (by omega)]
    obtain ⟨b, hb1, hb2, hb3⟩ := behind
    refine S_mono hb1 (fun o ho => ?_)
    subst ho
    dsimp only
    refine S_chk (inb_nI (by omega) (by decide)) (S_bn1 (S_eq (exts_eq hx) (S_chk (inC_19 (by omega) (by omega)) (S_nm (S_inl ?_)))))
    dsimp only
    have hxe := ext_le (k := (KN O P Q n).getD j 0)
    have ev : (if nI (extK ((KN O P Q n).getD j 0)) + nI b < 1000000 then nI (extK ((KN O P Q n).getD j 0)) + nI b else 1000000) = nI (Cn (KN O P Q) M c n ((KN O P Q n).getD j 0)) := by
      rw [← hb3, nI_add]
      by_cases cc : extK ((KN O P Q n).getD j 0) + b < 1000000
      · rw [if_pos (show nI (extK ((KN O P Q n).getD j 0) + b) < 1000000 from nI_lt (b := 1000000) cc (by decide)), if_pos cc]
      · rw [if_neg (show ¬ nI (extK ((KN O P Q n).getD j 0) + b) < 1000000 from nI_nlt (b := 1000000) (by omega) (by omega)), if_neg cc]
        rfl
    rw [ev]
    refine ⟨⟨j + 1, nI_1 j, by omega, fun i hi => ?_, fun k hk => ?_⟩, ?_⟩
    · by_cases ci : i = j
      · subst ci
        rw [ms_eq]
      · rw [ms_en ci]
        exact g1 i (by omega)
    · rw [ms_ne hk]
      exact g2 k hk
    · rw [nI_1, ix_nI (show j + 1 < 2 ^ 31 by omega)]
      omega
end FCs
