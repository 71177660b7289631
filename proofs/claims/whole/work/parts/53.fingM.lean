/-! ===== the reference's fingering ===== -/
/-- a part's notes, as the reference holds them -/
def DatM (τ : Mm) (p c : Nat) (O : Nat → Nat) (P Q M : Nat → Nat) : Prop := (∀ s, s < 4 → τ 1 s = nI (O s) ∧ O s ≤ 60) ∧ τ 2 p = nI c ∧ c ≤ 12 ∧ ∀ n, n < c → τ 3 (12 * p + n) = nI (P n) ∧ P n ≤ 80 ∧ τ 4 (12 * p + n) = qI (Q n) ∧ Q n ≤ 80 ∧ τ 6 (12 * p + n) = nI (M n) ∧ M n < 16
def FgM (τ τ' : Mm) : Prop := ∀ k, 1 ≤ k → (k < 7 ∨ 15 < k) → τ' k = τ k
theorem FgM.dat {τ τ' : Mm} {p c : Nat} {O P Q M : Nat → Nat} (h : FgM τ τ') (hd : DatM τ p c O P Q M) : DatM τ' p c O P Q M := by
  unfold DatM at hd ⊢
  rw [h 1 (by omega) (by omega), h 2 (by omega) (by omega), h 3 (by omega) (by omega), h 4 (by omega) (by omega), h 6 (by omega) (by omega)]
  exact hd
def CsM (K : Nat → List Nat) (M : Nat → Nat) (c : Nat) (τ : Mm) (n : Nat) : Prop := ∀ i, i < (K n).length → τ 14 (500 * n + i) = nI (Cn K M c n ((K n).getD i 0))
section FMs
variable {τ : Mm} {p c : Nat} {O P Q M : Nat → Nat}
theorem e500 (n : Nat) : (500 : Int32) * nI n = nI (500 * n) := pk_mul 500 n
set_option maxHeartbeats 1000000 in
theorem bestM {n a x : Nat} (hp : p < 3) (hn : n + 1 < c) (hx : x < 100000) (ha : a < 6000) (e1 : τ 8 a = nI (x / 10)) (hd : DatM τ p c O P Q M) (h1 : SegM τ (n + 1) (decide (Q (n + 1) ≠ 0)) (KN O P Q (n + 1))) (h2 : CsM (KN O P Q) M c τ (n + 1)) :
    Sat (lq2 (f_X6_findHardest_s51 (nI p) (nI n) (nI a)) fu τ 1000000 (500 * (nI n + 1))) (fun o => o = (τ, nI (mnL (Gn (KN O P Q) M c (n + 1) x) (KN O P Q (n + 1)).length))) := by
  obtain ⟨d1, d2, d3, d4⟩ := hd
  obtain ⟨-, -, -, -, e5, e6⟩ := d4 (n + 1) hn
  have hl := KN_len O P Q (n + 1)
  have hK := KN_lt O P Q
  rw [nI_1 n, e500]
  refine S_lq2 (fun τ' v b => τ' = τ ∧ ∃ j, b = nI (500 * (n + 1) + j) ∧ j ≤ (KN O P Q (n + 1)).length ∧ v = nI (mnL (Gn (KN O P Q) M c (n + 1) x) j)) (fun _ _ b => 6060 - b.toNatClampNeg) ?_ fu τ 1000000 _ (by unfold fu; omega) ⟨rfl, 0, rfl, by omega, rfl⟩
  rintro τ' v b ⟨rfl, j, rfl, hj, rfl⟩
  unfold f_X6_findHardest_s51
  refine S_chk (inb_nI hp (by decide)) ?_
  rw [ix_nI (show p < 2 ^ 31 by omega), d2, nI_sub1 (by omega)]
  refine S_f (nI_ge (show n < c - 1 by omega) (by omega)) ?_
  rw [nI_1 n, e500, ix_nI (show n + 1 < 2 ^ 31 by omega), h1.1, nI_add]
  refine S_chk (inb_nI (show n + 1 < 12 by omega) (by decide)) ?_
  by_cases cj : j = (KN O P Q (n + 1)).length
  · refine S_t (nI_le (by omega) (by omega)) (S_inr ?_)
    rw [cj]
  · have hj' : j < (KN O P Q (n + 1)).length := by omega
    refine S_f (nI_ge (by omega) (by omega)) (S_bn1 (S_eq (comes_eq hp (show n + 1 < 12 by omega) ha (show 500 * (n + 1) + j < 6000 by omega) hx (hK (n + 1) j hj') e6 e1 (h1.2 j hj').1 e5) ?_))
    dsimp only
    refine S_chk (inb_nI (by omega) (by decide)) ?_
    have eG : stp x ((KN O P Q (n + 1)).getD j 0) (M (n + 1)) + Cn (KN O P Q) M c (n + 1) ((KN O P Q (n + 1)).getD j 0) = Gn (KN O P Q) M c (n + 1) x j := Nat.add_comm _ _
    have ev : nI (stp x ((KN O P Q (n + 1)).getD j 0) (M (n + 1))) + τ' 14 (nI (500 * (n + 1) + j)).toNatClampNeg = nI (Gn (KN O P Q) M c (n + 1) x j) := by
      rw [ix_nI (show 500 * (n + 1) + j < 2 ^ 31 by omega), h2 j hj', nI_add, eG]
    have b1 := Gn_ub (M := M) (c := c) hK d3 hx hj'
    have b2 := mnL_le (Gn (KN O P Q) M c (n + 1) x) j
    have ms1 : 6060 - (nI (500 * (n + 1) + j) + 1).toNatClampNeg < 6060 - (nI (500 * (n + 1) + j)).toNatClampNeg := by
      rw [nI_1, ix_nI (show 500 * (n + 1) + j + 1 < 2 ^ 31 by omega), ix_nI (show 500 * (n + 1) + j < 2 ^ 31 by omega)]
      omega
    by_cases cc : Gn (KN O P Q) M c (n + 1) x j < mnL (Gn (KN O P Q) M c (n + 1) x) j
    · refine S_f (by rw [ev]; exact nI_ge cc (by omega)) (S_inl ⟨⟨rfl, j + 1, nI_1 _, by omega, ?_⟩, ms1⟩)
      dsimp only
      rw [ev, mnL_s, if_pos cc]
    · refine S_t (by rw [ev]; exact nI_le (by omega) (by omega)) (S_inl ⟨⟨rfl, j + 1, nI_1 _, by omega, ?_⟩, ms1⟩)
      rw [mnL_s, if_neg cc]
theorem bestL {n : Nat} {a : Int32} (hp : p < 3) (hn : n + 1 = c) (d3 : c ≤ 12) (d2 : τ 2 p = nI c) (v : Int32) :
    Sat (lq2 (f_X6_findHardest_s51 (nI p) (nI n) a) fu τ 0 v) (fun o => o = (τ, 0)) := by
  refine S_lq2 (fun τ' v b => τ' = τ ∧ v = 0) (fun _ _ b => 0) ?_ fu τ 0 _ (by unfold fu; omega) ⟨rfl, rfl⟩
  rintro τ' v b ⟨rfl, rfl⟩
  unfold f_X6_findHardest_s51
  refine S_chk (inb_nI hp (by decide)) ?_
  rw [ix_nI (show p < 2 ^ 31 by omega), d2, nI_sub1 (by omega)]
  exact S_t (nI_le (by omega) (by omega)) (S_inr rfl)
set_option maxHeartbeats 2000000 in
theorem hardM {n : Nat} (hp : p < 3) (hn : n < c) (hd : DatM τ p c O P Q M) (h1 : SegM τ n (decide (Q n ≠ 0)) (KN O P Q n)) (h2 : n + 1 < c → SegM τ (n + 1) (decide (Q (n + 1) ≠ 0)) (KN O P Q (n + 1)) ∧ CsM (KN O P Q) M c τ (n + 1)) :
    Sat (f_X6_findHardest τ (nI p) (nI n)) (fun τ' => CsM (KN O P Q) M c τ' n ∧ (∀ k, k ≠ 14 → τ' k = τ k) ∧ ∀ i, 500 * (n + 1) ≤ i → τ' 14 i = τ 14 i) := by
  have hc := hd.2.2.1
  have hl := KN_len O P Q n
  have hK := KN_lt O P Q
  unfold f_X6_findHardest
  rw [e500]
  refine S_bn0 ?_
  refine S_lq1 (fun τ' v => ∃ j, v = nI (500 * n + j) ∧ j ≤ (KN O P Q n).length ∧ (∀ i, i < j → τ' 14 (500 * n + i) = nI (Cn (KN O P Q) M c n ((KN O P Q n).getD i 0))) ∧ (∀ k, k ≠ 14 → τ' k = τ k) ∧ ∀ i, 500 * (n + 1) ≤ i → τ' 14 i = τ 14 i) (fun _ v => 6060 - v.toNatClampNeg) ?_ fu τ _ (by unfold fu; omega) ⟨0, rfl, by omega, fun i hi => by omega, fun _ _ => rfl, fun _ _ => rfl⟩
  rintro τ' v ⟨j, rfl, hj, g1, g2, g3⟩
  unfold f_X6_findHardest_s6
  refine S_chk (inb_nI (show n < 12 by omega) (by decide)) ?_
  rw [ix_nI (show n < 2 ^ 31 by omega), g2 7 (by omega), h1.1, e500, nI_add]
  by_cases cj : j = (KN O P Q n).length
  · refine S_t (nI_le (by omega) (by omega)) (S_inr (S_some ⟨fun i hi => ?_, g2, g3⟩))
    exact g1 i (by omega)
  · have hj' : j < (KN O P Q n).length := by omega
    have hx := hK n j hj'
    refine S_f (nI_ge (by omega) (by omega)) (S_chk (inb_nI hp (by decide)) ?_)
    have hdat : DatM τ' p c O P Q M := FgM.dat (fun k k1 k2 => g2 k (by omega)) hd
    obtain ⟨s1, s2, s3⟩ := h1.2 j hj'
    have bx : 500 * n + j < 6000 := by omega
    have behind : ∃ b, Sat (if nI n = τ' 2 (nI p).toNatClampNeg - 1 then some (τ', (0 : Int32)) else some (τ', 1000000)) (fun o => Sat (lq2 (f_X6_findHardest_s51 (nI p) (nI n) (nI (500 * n + j))) fu o.1 o.2 (500 * (nI n + 1))) (fun o' => o' = (τ', nI b))) ∧ b ≤ 1000000 ∧ cap (extK ((KN O P Q n).getD j 0)) b = Cn (KN O P Q) M c n ((KN O P Q n).getD j 0) := by
      rw [ix_nI (show p < 2 ^ 31 by omega), hdat.2.1, nI_sub1 (by omega)]
      by_cases cl : n + 1 = c
      · refine ⟨0, S_t (by rw [show c - 1 = n by omega]) (S_some (bestL hp cl hc hdat.2.1 _)), by omega, ?_⟩
        rw [Cn_last cl]
        unfold cap
        rw [if_neg (by omega), Nat.add_zero]
      · have hn1 : n + 1 < c := by omega
        obtain ⟨t1, t2⟩ := h2 hn1
        refine ⟨mnL (Gn (KN O P Q) M c (n + 1) ((KN O P Q n).getD j 0)) (KN O P Q (n + 1)).length, S_f (fun q => by have := (nI_eq (by omega) (by omega)).mp q; omega) (S_some ?_), mnL_le _ _, (Cn_step hn1).symm⟩
        dsimp only
        refine bestM hp hn1 hx bx (by rw [g2 8 (by omega)]; exact s1) hdat ?_ ?_
        · unfold SegM at t1 ⊢
          rw [g2 7 (by omega), g2 8 (by omega), g2 9 (by omega), g2 10 (by omega)]
          exact t1
        · intro i hi
          rw [g3 _ (by omega)]
          exact t2 i hi
    obtain ⟨b, hb1, hb2, hb3⟩ := behind
    refine S_bn1 (S_mono hb1 (fun o ho => S_bn1 (S_mono ho (fun o' ho' => ?_))))
    subst ho'
    dsimp only
    have hxe := ext_le (k := (KN O P Q n).getD j 0)
    have fin : Sat (if nI b < 1000000 then chk (inb (nI (500 * n + j)) 6000) (some (τ', τ' 10 (nI (500 * n + j)).toNatClampNeg + nI b)) else some (τ', 1000000)) (fun o => o = (τ', nI (Cn (KN O P Q) M c n ((KN O P Q n).getD j 0)))) := by
      rw [← hb3]
      unfold cap
      by_cases cb : 1000000 ≤ b
      · refine S_f (nI_nlt (b := 1000000) cb (by omega)) (S_some ?_)
        rw [if_pos cb]
        rfl
      · refine S_t (nI_lt (b := 1000000) (by omega) (by decide)) (S_chk (inb_nI bx (by decide)) (S_some ?_))
        rw [if_neg cb, ix_nI (show 500 * n + j < 2 ^ 31 by omega), g2 10 (by omega), s3, nI_add]
    refine S_bn1 (S_mono fin (fun o2 h2' => ?_))
    subst h2'
    dsimp only
    refine S_chk (inb_nI bx (by decide)) (S_nm (S_inl ?_))
    dsimp only
    rw [ix_nI (show 500 * n + j < 2 ^ 31 by omega)]
    refine ⟨⟨j + 1, nI_1 _, by omega, fun i hi => ?_, fun k hk => ?_, fun i hi => ?_⟩, ?_⟩
    · by_cases ci : i = j
      · subst ci
        rw [ms_eq]
      · rw [ms_en (by omega)]
        exact g1 i (by omega)
    · rw [ms_ne hk]
      exact g2 k hk
    · rw [ms_en (by omega)]
      exact g3 i hi
    · rw [nI_1, ix_nI (show 500 * n + j + 1 < 2 ^ 31 by omega)]
      omega
end FMs
