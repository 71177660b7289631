/-! ===== the fingering, and the class finds it ===== -/
def C0 (K : Nat → List Nat) (M : Nat → Nat) (c i : Nat) : Nat := Cn K M c 0 ((K 0).getD i 0)
def chK (K : Nat → List Nat) (M : Nat → Nat) (c : Nat) : Nat → Nat
  | 0 => (K 0).getD (amL (C0 K M c) (K 0).length) 0
  | n + 1 => (K (n + 1)).getD (amL (Gn K M c (n + 1) (chK K M c n)) (K (n + 1)).length) 0
def fcost (K : Nat → List Nat) (M : Nat → Nat) (c : Nat) : Nat := if c = 0 then 0 else mnL (C0 K M c) (K 0).length
theorem fcost_le (K : Nat → List Nat) (M : Nat → Nat) (c : Nat) : fcost K M c ≤ 1000000 := by
  unfold fcost
  split
  · omega
  · exact mnL_le _ _
theorem chK_ok {K : Nat → List Nat} {M : Nat → Nat} {c : Nat} (hK : ∀ n i, i < (K n).length → (K n).getD i 0 < 100000) (hf : fcost K M c < 1000000) : ∀ n, n < c → chK K M c n < 100000 ∧ Cn K M c n (chK K M c n) < 1000000 ∧ (n + 1 < c → mnL (Gn K M c (n + 1) (chK K M c n)) (K (n + 1)).length < 1000000)
  | 0, hn => by
    unfold fcost at hf
    rw [if_neg (by omega)] at hf
    obtain ⟨h1, h2, -⟩ := amL_ok (C0 K M c) (K 0).length hf
    have e : Cn K M c 0 (chK K M c 0) = mnL (C0 K M c) (K 0).length := h2
    refine ⟨hK 0 _ h1, by rw [e]; exact hf, fun h => ?_⟩
    have hlt : Cn K M c 0 (chK K M c 0) < 1000000 := by rw [e]; exact hf
    rw [Cn_step h] at hlt
    unfold cap at hlt
    split at hlt
    · omega
    · omega
  | n + 1, hn => by
    obtain ⟨q1, q2, q3⟩ := chK_ok hK hf n (by omega)
    have q4 := q3 hn
    obtain ⟨h1, h2, -⟩ := amL_ok (Gn K M c (n + 1) (chK K M c n)) (K (n + 1)).length q4
    have e : Cn K M c (n + 1) (chK K M c (n + 1)) + stp (chK K M c n) (chK K M c (n + 1)) (M (n + 1)) = mnL (Gn K M c (n + 1) (chK K M c n)) (K (n + 1)).length := h2
    have hlt : Cn K M c (n + 1) (chK K M c (n + 1)) < 1000000 := by omega
    refine ⟨hK (n + 1) _ h1, hlt, fun h => ?_⟩
    rw [Cn_step h] at hlt
    unfold cap at hlt
    split at hlt
    · omega
    · omega
section FCf
variable {σ : Mm} {p c : Nat} {O P Q M : Nat → Nat}
set_option maxHeartbeats 1000000 in
theorem leastFirstC (hc : c ≤ 12) (h1 : SegC σ 0 (KN O P Q 0)) (h2 : CsC (KN O P Q) M c σ 0) : f_X1_leastFirst σ = some (σ, if mnL (C0 (KN O P Q) M c) (KN O P Q 0).length < 1000000 then nI (amL (C0 (KN O P Q) M c) (KN O P Q 0).length) else -1) := by
  have hK := KN_lt O P Q
  have hl := KN_len O P Q 0
  have z0 : (0 : Int32).toNatClampNeg = 0 := by decide
  have key : Sat (f_X1_leastFirst σ) (fun o => o = (σ, if mnL (C0 (KN O P Q) M c) (KN O P Q 0).length < 1000000 then nI (amL (C0 (KN O P Q) M c) (KN O P Q 0).length) else -1)) := by
    unfold f_X1_leastFirst
    refine S_bn1 ?_
    refine S_lq3 (fun σ' v f i => σ' = σ ∧ ∃ j, i = nI j ∧ j ≤ (KN O P Q 0).length ∧ v = nI (mnL (C0 (KN O P Q) M c) j) ∧ f = if mnL (C0 (KN O P Q) M c) j < 1000000 then nI (amL (C0 (KN O P Q) M c) j) else -1) (fun _ _ _ i => 60 - i.toNatClampNeg) ?_ fu σ 1000000 (-1) 0 (by unfold fu; omega) ⟨rfl, 0, rfl, by omega, rfl, (if_neg (show ¬ mnL (C0 (KN O P Q) M c) 0 < 1000000 from Nat.lt_irrefl 1000000)).symm⟩
    rintro σ' v f i ⟨rfl, j, rfl, hj, rfl, rfl⟩
    unfold f_X1_leastFirst_s7
    refine S_chk (by decide) ?_
    rw [z0, h1.1]
    by_cases cj : j = (KN O P Q 0).length
    · refine S_t (nI_le (by omega) (by omega)) (S_inr (S_some ?_))
      rw [cj]
    · have hj' : j < (KN O P Q 0).length := by omega
      have ms1 : 60 - (nI j + 1).toNatClampNeg < 60 - (nI j).toNatClampNeg := by
        rw [nI_1, ix_nI (show j + 1 < 2 ^ 31 by omega), ix_nI (show j < 2 ^ 31 by omega)]
        omega
      have ms2 : 60 - (nI j + 1).toNatClampNeg < 60 - j := by
        rw [nI_1, ix_nI (show j + 1 < 2 ^ 31 by omega)]
        omega
      refine S_f (nI_ge hj' (by omega)) (S_chk (by decide) (S_chk (inC_19 (n := 0) (by omega) (by omega)) ?_))
      have e19 : σ' 19 j = nI (C0 (KN O P Q) M c j) := h2 j hj'
      rw [ix_nI (show j < 2 ^ 31 by omega), Nat.add_zero, e19]
      have b1 : C0 (KN O P Q) M c j ≤ 1000000 := by
        have := Cn_le (M := M) (c := c) (n := 0) hK hc (hK 0 j hj')
        unfold C0
        omega
      have b2 := mnL_le (C0 (KN O P Q) M c) j
      by_cases cc : C0 (KN O P Q) M c j < mnL (C0 (KN O P Q) M c) j
      · have em : mnL (C0 (KN O P Q) M c) (j + 1) = C0 (KN O P Q) M c j := by rw [mnL_s, if_pos cc]
        have ea : amL (C0 (KN O P Q) M c) (j + 1) = j := by rw [amL_s, if_pos cc]
        refine S_f (nI_ge cc (by omega)) (S_chk (by decide) (S_chk (inC_19 (n := 0) (by omega) (by omega)) (S_inl ⟨⟨rfl, j + 1, nI_1 j, by omega, ?_, ?_⟩, by first | exact ms1 | exact ms2⟩)))
        · rw [em]
        · rw [em, ea, if_pos (by omega)]
      · have em : mnL (C0 (KN O P Q) M c) (j + 1) = mnL (C0 (KN O P Q) M c) j := by rw [mnL_s, if_neg cc]
        have ea : amL (C0 (KN O P Q) M c) (j + 1) = amL (C0 (KN O P Q) M c) j := by rw [amL_s, if_neg cc]
        refine S_t (nI_le (by omega) (by omega)) (S_inl ⟨⟨rfl, j + 1, nI_1 j, by omega, ?_, ?_⟩, by first | exact ms1 | exact ms2⟩)
        · rw [em]
        · rw [em, ea]
  obtain ⟨o, ho, rfl⟩ := key
  exact ho
set_option maxHeartbeats 2000000 in
theorem followC (hp : p < 3) (h0 : 0 < c) (hd : DatC σ p c O P Q M) (h1 : ∀ n, n < c → SegC σ n (KN O P Q n) ∧ CsC (KN O P Q) M c σ n) (cf : fcost (KN O P Q) M c < 1000000) (hs : σ (31 + 15 * p + 6) 0 = nI (chK (KN O P Q) M c 0)) : Sat (lq1 (f_X1_findFingering_s107 (31 + 15 * p)) fu σ 1) (fun τ => (∀ n, n < c → τ (31 + 15 * p + 6) n = nI (chK (KN O P Q) M c n)) ∧ ∀ k, k ≠ 31 + 15 * p + 6 → τ k = σ k) := by
  have hc := hd.2.2.1
  have hK := KN_lt O P Q
  refine S_lq1 (fun τ v => ∃ n, v = nI n ∧ 1 ≤ n ∧ n ≤ c ∧ (∀ m, m < n → τ (31 + 15 * p + 6) m = nI (chK (KN O P Q) M c m)) ∧ ∀ k, k ≠ 31 + 15 * p + 6 → τ k = σ k) (fun _ v => 12 - v.toNatClampNeg) ?_ fu σ 1 (by unfold fu; omega) ⟨1, rfl, by omega, by omega, fun m hm => ?_, fun _ _ => rfl⟩
  · rintro τ v ⟨n, rfl, n1, n2, t1, t2⟩
    unfold f_X1_findFingering_s107
    rw [t2 _ (by omega), hd.2.1]
    by_cases cn : n = c
    · refine S_t (nI_le (by omega) (by omega)) (S_inr ⟨fun m hm => ?_, t2⟩)
      exact t1 m (by omega)
    · have hn : n < c := by omega
      refine S_f (nI_ge hn (by omega)) ?_
      rw [nI_sub1 (by omega), ix_nI (show n - 1 < 2 ^ 31 by omega), t1 (n - 1) (by omega)]
      obtain ⟨q1, q2, q3⟩ := chK_ok hK cf (n - 1) (by omega)
      have hdat : DatC τ p c O P Q M := by
        obtain ⟨a1, a2, a3, a4⟩ := hd
        refine ⟨fun s hs => ?_, ?_, a3, fun m hm => ?_⟩
        · rw [t2 1 (by omega)]
          exact a1 s hs
        · rw [t2 _ (by omega)]
          exact a2
        · rw [t2 _ (by omega), t2 (31 + 15 * p + 2) (by omega), t2 (31 + 15 * p + 5) (by omega)]
          exact a4 m hm
      obtain ⟨s1, s2⟩ := h1 n hn
      obtain ⟨r, e1, e2⟩ := leastNextC (σ := τ) hp hn q1 hdat ⟨by rw [t2 5 (by omega)]; exact s1.1, fun i hi => by rw [t2 _ (by omega)]; exact s1.2 i hi⟩ (fun i hi => by rw [t2 _ (by omega)]; exact s2 i hi)
      refine S_chk (inC_p hp (by decide) (by decide) (by omega)) (S_bn1 (S_eq e1 (S_chk (inC_p hp (by decide) (by decide) (by omega)) (S_nm (S_inl ?_)))))
      dsimp only
      obtain ⟨n', rfl⟩ : ∃ n', n = n' + 1 := ⟨n - 1, by omega⟩
      rw [Nat.add_sub_cancel] at q3 e2
      have er := e2 (q3 hn)
      rw [er, ix_nI (show n' + 1 < 2 ^ 31 by omega)]
      refine ⟨⟨n' + 1 + 1, nI_1 _, by omega, by omega, fun m hm => ?_, fun k hk => ?_⟩, ?_⟩
      · by_cases cm : m = n' + 1
        · subst cm
          rw [ms_eq]
          rfl
        · rw [ms_en cm]
          exact t1 m (by omega)
      · rw [ms_ne hk]
        exact t2 k hk
      · rw [nI_1, ix_nI (show n' + 1 + 1 < 2 ^ 31 by omega)]
        omega
  · have e0 : m = 0 := by omega
    subst e0
    exact hs
set_option maxHeartbeats 2000000 in
theorem findEndC (hp : p < 3) (h0 : 0 < c) (hd : DatC σ p c O P Q M) (h1 : ∀ n, n < c → SegC σ n (KN O P Q n) ∧ CsC (KN O P Q) M c σ n) : Sat (bn1 (f_X1_leastFirst σ) (fun σ5 r5 => (if 0 ≤ r5 then chk (inb 0 12) (chk (inC (7 + (0 : Int32).toNatClampNeg) r5) (chk (inC ((31 + 15 * p) + 6) 0) (nm (ms σ5 ((31 + 15 * p) + 6) (0 : Int32).toNatClampNeg (σ5 (7 + (0 : Int32).toNatClampNeg) r5.toNatClampNeg)) (fun σ9 => bn0 (lq1 (f_X1_findFingering_s107 (31 + 15 * p)) fu σ9 1) (fun σ11 => chk (inb 0 12) (chk (inC (19 + (0 : Int32).toNatClampNeg) r5) (some (σ11, (σ11 (19 + (0 : Int32).toNatClampNeg) r5.toNatClampNeg))))))))) else some (σ5, 1000000)))) (fun o => o.2 = nI (fcost (KN O P Q) M c) ∧ (fcost (KN O P Q) M c < 1000000 → ∀ n, n < c → o.1 (31 + 15 * p + 6) n = nI (chK (KN O P Q) M c n)) ∧ ∀ k, k ≠ 31 + 15 * p + 6 → o.1 k = σ k) := by
  have hc := hd.2.2.1
  have hK := KN_lt O P Q
  have hl := KN_len O P Q 0
  have ef : fcost (KN O P Q) M c = mnL (C0 (KN O P Q) M c) (KN O P Q 0).length := by
    unfold fcost
    rw [if_neg (by omega)]
  have z0 : (0 : Int32).toNatClampNeg = 0 := by decide
  refine S_bn1 (S_eq (leastFirstC hc (h1 0 h0).1 (h1 0 h0).2) ?_)
  dsimp only
  rw [z0, Nat.add_zero, Nat.add_zero, ← ef]
  by_cases cf : fcost (KN O P Q) M c < 1000000
  · rw [if_pos cf]
    obtain ⟨a1, a2, a3⟩ := amL_ok (C0 (KN O P Q) M c) (KN O P Q 0).length (by rw [← ef]; exact cf)
    generalize hx : amL (C0 (KN O P Q) M c) (KN O P Q 0).length = x at a1 a2
    have e7 : σ 7 x = nI ((KN O P Q 0).getD x 0) := (h1 0 h0).1.2 x a1
    have e19 : σ 19 x = nI (C0 (KN O P Q) M c x) := (h1 0 h0).2 x a1
    refine S_t (nI_pos' (by omega)) (S_chk (by decide) (S_chk (inC_7 (n := 0) (by omega) (by omega)) (S_chk (inC_p (n := 0) hp (by decide) (by decide) (by omega)) (S_nm (S_bn0 ?_)))))
    rw [ix_nI (show x < 2 ^ 31 by omega), e7]
    have m7 : ∀ k, k ≠ 31 + 15 * p + 6 → ms σ (31 + 15 * p + 6) 0 (nI ((KN O P Q 0).getD x 0)) k = σ k := fun k hk => ms_ne hk
    have hdat : DatC (ms σ (31 + 15 * p + 6) 0 (nI ((KN O P Q 0).getD x 0))) p c O P Q M := by
      obtain ⟨b1, b2, b3, b4⟩ := hd
      refine ⟨fun s hs => ?_, ?_, b3, fun m hm => ?_⟩
      · rw [m7 1 (by omega)]
        exact b1 s hs
      · rw [m7 _ (by omega)]
        exact b2
      · rw [m7 _ (by omega), m7 (31 + 15 * p + 2) (by omega), m7 (31 + 15 * p + 5) (by omega)]
        exact b4 m hm
    refine S_mono (followC hp h0 hdat (fun n hn => ?_) cf ?_) (fun τ ht => ?_)
    · obtain ⟨s1, s2⟩ := h1 n hn
      exact ⟨⟨by rw [m7 5 (by omega)]; exact s1.1, fun i hi => by rw [m7 _ (by omega)]; exact s1.2 i hi⟩, fun i hi => by rw [m7 _ (by omega)]; exact s2 i hi⟩
    · rw [ms_eq, ← hx]
      rfl
    · obtain ⟨t1, t2⟩ := ht
      refine S_chk (by decide) (S_chk (inC_19 (n := 0) (by omega) (by omega)) (S_some ⟨?_, fun _ => t1, fun k hk => ?_⟩))
      · dsimp only
        rw [t2 19 (by omega), m7 19 (by omega), e19, a2, ef]
      · dsimp only
        rw [t2 k hk, m7 k hk]
  · rw [if_neg cf]
    refine S_f (by decide) (S_some ⟨?_, fun h => absurd h cf, fun _ _ => rfl⟩)
    have := fcost_le (KN O P Q) M c
    rw [show fcost (KN O P Q) M c = 1000000 by omega]
    rfl
set_option maxHeartbeats 2000000 in
theorem findFC (hp : p < 3) (hd : DatC σ p c O P Q M) : Sat (f_X1_findFingering σ 1 (31 + 15 * p)) (fun o => o.2 = nI (fcost (KN O P Q) M c) ∧ (fcost (KN O P Q) M c < 1000000 → ∀ n, n < c → o.1 (31 + 15 * p + 6) n = nI (chK (KN O P Q) M c n)) ∧ FgC σ o.1 p) := by
  have hc := hd.2.2.1
  unfold f_X1_findFingering
  refine S_chk (by rw [kd_part hp]; rfl) ?_
  rw [hd.2.1]
  by_cases c0 : c = 0
  · subst c0
    refine S_f (show ¬ (0 : Int32) < nI 0 by decide) (S_some ⟨?_, fun _ n hn => by omega, fun _ _ _ _ => rfl⟩)
    unfold fcost
    rfl
  · refine S_t (show (0 : Int32) < nI c from nI_lt (a := 0) (by omega) (by omega)) (S_bn0 ?_)
    refine S_lq1 (fun σ' v => ∃ j, v = nI j - 1 ∧ j ≤ c ∧ (∀ n, j ≤ n → n < c → SegC σ' n (KN O P Q n) ∧ CsC (KN O P Q) M c σ' n) ∧ FgC σ σ' p) (fun _ v => (v + 1).toNatClampNeg) ?_ fu σ (nI c - 1) (by rw [nI_sub1 (by omega), nI_1, ix_nI (by omega)]; unfold fu; omega) ⟨c, rfl, Nat.le_refl _, fun n a b => by omega, fun _ _ _ _ => rfl⟩
    rintro σ' v ⟨j, rfl, hj, g1, g2⟩
    unfold f_X1_findFingering_s16
    have hdat := FgC.dat hp g2 hd
    by_cases cj : j = 0
    · subst cj
      refine S_t (show nI 0 - 1 < 0 by decide) (S_inr ?_)
      refine S_mono (findEndC hp (by omega) hdat (fun n hn => g1 n (by omega) hn)) (fun o ho => ?_)
      obtain ⟨o1, o2⟩ := o
      obtain ⟨a1, a2, a3⟩ := ho
      refine ⟨a1, a2, fun k k1 k2 k3 => ?_⟩
      rw [a3 k k3]
      exact g2 k k1 k2 k3
    · obtain ⟨n, rfl⟩ : ∃ n, j = n + 1 := ⟨j - 1, by omega⟩
      have hn : n < c := by omega
      rw [nI_pred]
      refine S_f (nI_pos (by omega)) (S_bn1 ?_)
      obtain ⟨d1, d2, d3, d4⟩ := hdat
      obtain ⟨e1, e2, e3, e4, e5, e6⟩ := d4 n hn
      refine S_mono (hldC hp (by omega) d1 e1 e2 e3 e4) (fun o ho => ?_)
      obtain ⟨o1, o2⟩ := o
      obtain ⟨s1, s2, s3⟩ := ho
      dsimp only at s1 s2 s3 ⊢
      refine S_bn0 ?_
      have fg1 : FgC σ' o1 p := fun k k1 k2 k3 => s2.1 k k1 (by omega)
      have g1' : ∀ m, n + 1 ≤ m → m < c → SegC o1 m (KN O P Q m) ∧ CsC (KN O P Q) M c o1 m := by
        intro m m1 m2
        obtain ⟨a1, a2⟩ := g1 m m1 m2
        refine ⟨⟨by rw [s2.2 m (by omega)]; exact a1.1, fun i hi => by rw [s2.1 _ (by omega) (by omega)]; exact a1.2 i hi⟩, fun i hi => by rw [s2.1 _ (by omega) (by omega)]; exact a2 i hi⟩
      refine S_mono (reckonC hp hn (FgC.dat hp fg1 ⟨d1, d2, d3, d4⟩) s1 (fun h => g1' (n + 1) (by omega) h)) (fun σ3 h3 => S_inl ?_)
      obtain ⟨r1, r2⟩ := h3
      dsimp only
      refine ⟨⟨n, (Int32.sub_eq_add_neg _ _).symm, by omega, fun m m1 m2 => ?_, fun k k1 k2 k3 => ?_⟩, ?_⟩
      · by_cases q : m = n
        · subst q
          exact ⟨⟨by rw [r2 5 (by omega)]; exact s1.1, fun i hi => by rw [r2 _ (by omega)]; exact s1.2 i hi⟩, r1⟩
        · obtain ⟨a1, a2⟩ := g1' m (by omega) m2
          exact ⟨⟨by rw [r2 5 (by omega)]; exact a1.1, fun i hi => by rw [r2 _ (by omega)]; exact a1.2 i hi⟩, fun i hi => by rw [r2 _ (by omega)]; exact a2 i hi⟩
      · rw [r2 k (by omega), fg1 k k1 k2 k3]
        exact g2 k k1 k2 k3
      · rw [nI_1, ix_nI (show n + 1 < 2 ^ 31 by omega)]
        rw [show nI n + (-1) + 1 = nI n by rw [Int32.add_assoc]; exact Int32.add_zero _, ix_nI (by omega)]
        omega
end FCf
