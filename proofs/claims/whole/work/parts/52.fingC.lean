/-! ===== the fingering, and the class finds it ===== -/
def C0 (K : Nat → List Nat) (M : Nat → Nat) (c i : Nat) : Nat := Cn K M c 0 ((K 0).getD i 0)
def chK (K : Nat → List Nat) (M : Nat → Nat) (c : Nat) : Nat → Nat
  | 0 => (K 0).getD (amL (C0 K M c) (K 0).length) 0
  | n + 1 => (K (n + 1)).getD (amL (Gn K M c (n + 1) (chK K M c n)) (K (n + 1)).length) 0
def fcost (K : Nat → List Nat) (M : Nat → Nat) (c : Nat) : Nat := if c = 0 then 0 else mnL (C0 K M c) (K 0).length
theorem fcost_le (K : Nat → List Nat) (M : Nat → Nat) (c : Nat) : fcost K M c ≤ 1000000 := by
  unfold fcost
  split
  · omega
  · exact mnL_le _ _
theorem chK_ok {K : Nat → List Nat} {M : Nat → Nat} {c : Nat} (hK : ∀ n i, i < (K n).length → (K n).getD i 0 < 100000) (hf : fcost K M c < 1000000) : ∀ n, n < c → chK K M c n < 100000 ∧ Cn K M c n (chK K M c n) < 1000000 ∧ (n + 1 < c → mnL (Gn K M c (n + 1) (chK K M c n)) (K (n + 1)).length < 1000000)
  | 0, hn => by
    unfold fcost at hf
    rw [if_neg (by omega)] at hf
    obtain ⟨h1, h2, -⟩ := amL_ok (C0 K M c) (K 0).length hf
    have e : Cn K M c 0 (chK K M c 0) = mnL (C0 K M c) (K 0).length := h2
    refine ⟨hK 0 _ h1, by rw [e]; exact hf, fun h => ?_⟩
    have hlt : Cn K M c 0 (chK K M c 0) < 1000000 := by rw [e]; exact hf
    rw [Cn_step h] at hlt
    unfold cap at hlt
    split at hlt
    · omega
    · omega
  | n + 1, hn => by
    obtain ⟨q1, q2, q3⟩ := chK_ok hK hf n (by omega)
    have q4 := q3 hn
    obtain ⟨h1, h2, -⟩ := amL_ok (Gn K M c (n + 1) (chK K M c n)) (K (n + 1)).length q4
    have e : Cn K M c (n + 1) (chK K M c (n + 1)) + stp (chK K M c n) (chK K M c (n + 1)) (M (n + 1)) = mnL (Gn K M c (n + 1) (chK K M c n)) (K (n + 1)).length := h2
    have hlt : Cn K M c (n + 1) (chK K M c (n + 1)) < 1000000 := by omega
    refine ⟨hK (n + 1) _ h1, hlt, fun h => ?_⟩
    rw [Cn_step h] at hlt
    unfold cap at hlt
    split at hlt
    · omega
    · omega
section FCf
variable {σ : Mm} {p c : Nat} {O P Q M : Nat → Nat}
set_option maxHeartbeats 2000000 in
theorem followC (hp : p < 3) (h0 : 0 < c) (hd : DatC σ p c O P Q M) (h1 : ∀ n, n < c → SegC σ n (KN O P Q n) ∧ CsC (KN O P Q) M c σ n) : Sat (f_X1_followLeast σ (31 + 15 * p)) (fun o => o.2 = nI (fcost (KN O P Q) M c) ∧ (fcost (KN O P Q) M c < 1000000 → ∀ n, n < c → o.1 (31 + 15 * p + 6) n = nI (chK (KN O P Q) M c n)) ∧ ∀ k, k ≠ 31 + 15 * p + 6 → o.1 k = σ k) := by
  have hc := hd.2.2.1
  have hK := KN_lt O P Q
  have hl := KN_len O P Q 0
  have ef : fcost (KN O P Q) M c = mnL (C0 (KN O P Q) M c) (KN O P Q 0).length := by
    unfold fcost
    rw [if_neg (by omega)]
  have z0 : (0 : Int32).toNatClampNeg = 0 := by decide
  unfold f_X1_followLeast
  refine S_bn1 ?_
  refine S_lq2 (fun σ' v i => ∃ j, i = nI j ∧ j ≤ (KN O P Q 0).length ∧ v = nI (mnL (C0 (KN O P Q) M c) j) ∧ (mnL (C0 (KN O P Q) M c) j < 1000000 → σ' (31 + 15 * p + 6) 0 = nI ((KN O P Q 0).getD (amL (C0 (KN O P Q) M c) j) 0)) ∧ ∀ k, k ≠ 31 + 15 * p + 6 → σ' k = σ k) (fun _ _ i => 60 - i.toNatClampNeg) ?_ fu σ 1000000 0 (by unfold fu; omega) ⟨0, rfl, by omega, rfl, fun h => absurd h (Nat.lt_irrefl 1000000), fun _ _ => rfl⟩
  rintro σ' v i ⟨j, rfl, hj, rfl, g1, g2⟩
  unfold f_X1_followLeast_s5
  refine S_chk (by decide) ?_
  rw [z0, g2 5 (by omega), (h1 0 h0).1.1]
  by_cases cj : j = (KN O P Q 0).length
  · refine S_t (nI_le (by omega) (by omega)) (S_inr ?_)
    dsimp only
    rw [cj, ← ef] at g1
    rw [cj, ← ef]
    refine S_bn0 ?_
    refine S_lq1 (fun τ v => ∃ n, v = nI n ∧ 1 ≤ n ∧ n ≤ c ∧ (fcost (KN O P Q) M c < 1000000 → ∀ m, m < n → τ (31 + 15 * p + 6) m = nI (chK (KN O P Q) M c m)) ∧ ∀ k, k ≠ 31 + 15 * p + 6 → τ k = σ k) (fun _ v => 12 - v.toNatClampNeg) ?_ fu σ' 1 (by unfold fu; omega) ⟨1, rfl, by omega, by omega, fun h m hm => ?_, g2⟩
    · rintro τ v ⟨n, rfl, n1, n2, t1, t2⟩
      unfold f_X1_followLeast_s58
      refine S_chk (by rw [kd_part hp]; rfl) ?_
      rw [t2 _ (by omega), hd.2.1]
      by_cases cn : n = c
      · refine S_t (nI_le (by omega) (by omega)) (S_inr (S_some ⟨rfl, fun h m hm => ?_, t2⟩))
        exact t1 h m (by omega)
      · have hn : n < c := by omega
        refine S_f (nI_ge hn (by omega)) ?_
        by_cases cf : fcost (KN O P Q) M c < 1000000
        · refine S_f (show ¬ (1000000 : Int32) ≤ nI _ from nI_ge (b := 1000000) cf (by decide)) ?_
          rw [nI_sub1 (by omega), ix_nI (show n - 1 < 2 ^ 31 by omega), t1 cf (n - 1) (by omega)]
          obtain ⟨q1, q2, q3⟩ := chK_ok hK cf (n - 1) (by omega)
          have hdat : DatC τ p c O P Q M := by
            obtain ⟨a1, a2, a3, a4⟩ := hd
            refine ⟨fun s hs => ?_, ?_, a3, fun m hm => ?_⟩
            · rw [t2 1 (by omega)]
              exact a1 s hs
            · rw [t2 _ (by omega)]
              exact a2
            · rw [t2 _ (by omega), t2 (31 + 15 * p + 2) (by omega), t2 (31 + 15 * p + 5) (by omega)]
              exact a4 m hm
          obtain ⟨s1, s2⟩ := h1 n hn
          obtain ⟨r, e1, e2⟩ := leastNextC (σ := τ) hp hn q1 hdat ⟨by rw [t2 5 (by omega)]; exact s1.1, fun i hi => by rw [t2 _ (by omega)]; exact s1.2 i hi⟩ (fun i hi => by rw [t2 _ (by omega)]; exact s2 i hi)
          refine S_chk (inC_p hp (by decide) (by decide) (by omega)) (S_bn1 (S_eq e1 (S_chk (inC_p hp (by decide) (by decide) (by omega)) (S_nm (S_inl ?_)))))
          dsimp only
          obtain ⟨n', rfl⟩ : ∃ n', n = n' + 1 := ⟨n - 1, by omega⟩
          rw [Nat.add_sub_cancel] at q3 e2
          have er := e2 (q3 hn)
          rw [er, ix_nI (show n' + 1 < 2 ^ 31 by omega)]
          refine ⟨⟨n' + 1 + 1, nI_1 _, by omega, by omega, fun h m hm => ?_, fun k hk => ?_⟩, ?_⟩
          · by_cases cm : m = n' + 1
            · subst cm
              rw [ms_eq]
              rfl
            · rw [ms_en cm]
              exact t1 h m (by omega)
          · rw [ms_ne hk]
            exact t2 k hk
          · rw [nI_1, ix_nI (show n' + 1 + 1 < 2 ^ 31 by omega)]
            omega
        · refine S_t (show (1000000 : Int32) ≤ nI _ from nI_le (a := 1000000) (by omega) (by have := fcost_le (KN O P Q) M c; omega)) (S_inr (S_some ⟨rfl, fun h => absurd h cf, t2⟩))
    · have e0 : m = 0 := by omega
      subst e0
      exact g1 h
  · have hj' : j < (KN O P Q 0).length := by omega
    refine S_f (nI_ge hj' (by omega)) (S_chk (by decide) (S_chk (inC_19 (n := 0) (by omega) (by omega)) ?_))
    rw [ix_nI (show j < 2 ^ 31 by omega), Nat.add_zero, g2 19 (by omega)]
    have e19 : σ 19 j = nI (C0 (KN O P Q) M c j) := (h1 0 h0).2 j hj'
    have e7 : σ 7 j = nI ((KN O P Q 0).getD j 0) := (h1 0 h0).1.2 j hj'
    rw [e19]
    have b1 : C0 (KN O P Q) M c j ≤ 1000000 := by
      have := Cn_le (M := M) (c := c) (n := 0) hK hc (hK 0 j hj')
      unfold C0
      omega
    have b2 := mnL_le (C0 (KN O P Q) M c) j
    have ms1 : 60 - (nI j + 1).toNatClampNeg < 60 - (nI j).toNatClampNeg := by
      rw [nI_1, ix_nI (show j + 1 < 2 ^ 31 by omega), ix_nI (show j < 2 ^ 31 by omega)]
      omega
    have ms2 : 60 - (nI j + 1).toNatClampNeg < 60 - j := by
      rw [nI_1, ix_nI (show j + 1 < 2 ^ 31 by omega)]
      omega
    by_cases cc : C0 (KN O P Q) M c j < mnL (C0 (KN O P Q) M c) j
    · refine S_f (nI_ge cc (by omega)) (S_chk (by decide) (S_chk (inC_19 (n := 0) (by omega) (by omega)) (S_chk (by rw [kd_part hp]; rfl) (S_chk (by decide) (S_chk (inC_7 (n := 0) (by omega) (by omega)) (S_chk (inC_p (n := 0) hp (by decide) (by decide) (by omega)) (S_nm (S_inl ?_))))))))
      dsimp only
      rw [g2 7 (by omega), e7]
      refine ⟨⟨j + 1, nI_1 j, by omega, ?_, fun _ => ?_, fun k hk => ?_⟩, by first | exact ms1 | exact ms2⟩
      · rw [mnL_s, if_pos cc]
      · rw [ms_eq, amL_s, if_pos cc]
      · rw [ms_ne hk]
        exact g2 k hk
    · refine S_t (nI_le (by omega) (by omega)) (S_inl ⟨⟨j + 1, nI_1 j, by omega, ?_, fun q => ?_, g2⟩, by first | exact ms1 | exact ms2⟩)
      · rw [mnL_s, if_neg cc]
      · rw [mnL_s, if_neg cc] at q
        rw [amL_s, if_neg cc]
        exact g1 q
set_option maxHeartbeats 2000000 in
theorem findFC (hp : p < 3) (hd : DatC σ p c O P Q M) : Sat (f_X1_findFingering σ 1 (31 + 15 * p)) (fun o => o.2 = nI (fcost (KN O P Q) M c) ∧ (fcost (KN O P Q) M c < 1000000 → ∀ n, n < c → o.1 (31 + 15 * p + 6) n = nI (chK (KN O P Q) M c n)) ∧ FgC σ o.1 p) := by
  have hc := hd.2.2.1
  unfold f_X1_findFingering
  refine S_chk (by rw [kd_part hp]; rfl) ?_
  rw [hd.2.1]
  by_cases c0 : c = 0
  · subst c0
    refine S_f (show ¬ (0 : Int32) ≤ nI 0 - 1 by decide) (S_some ⟨?_, fun _ n hn => by omega, fun _ _ _ _ => rfl⟩)
    unfold fcost
    rfl
  · refine S_t (by rw [nI_sub1 (by omega)]; exact nI_pos' (by omega)) (S_bn0 ?_)
    refine S_lq1 (fun σ' v => ∃ j, v = nI j - 1 ∧ j ≤ c ∧ (∀ n, j ≤ n → n < c → SegC σ' n (KN O P Q n) ∧ CsC (KN O P Q) M c σ' n) ∧ FgC σ σ' p) (fun _ v => (v + 1).toNatClampNeg) ?_ fu σ (nI c - 1) (by rw [nI_sub1 (by omega), nI_1, ix_nI (by omega)]; unfold fu; omega) ⟨c, rfl, Nat.le_refl _, fun n a b => by omega, fun _ _ _ _ => rfl⟩
    rintro σ' v ⟨j, rfl, hj, g1, g2⟩
    unfold f_X1_findFingering_s16
    have hdat := FgC.dat hp g2 hd
    by_cases cj : j = 0
    · subst cj
      refine S_t (show nI 0 - 1 < 0 by decide) (S_inr (S_bn1 ?_))
      refine S_mono (followC hp (by omega) hdat (fun n hn => g1 n (by omega) hn)) (fun o ho => S_some ?_)
      obtain ⟨o1, o2⟩ := o
      obtain ⟨a1, a2, a3⟩ := ho
      refine ⟨a1, a2, fun k k1 k2 k3 => ?_⟩
      rw [a3 k k3]
      exact g2 k k1 k2 k3
    · obtain ⟨n, rfl⟩ : ∃ n, j = n + 1 := ⟨j - 1, by omega⟩
      have hn : n < c := by omega
      rw [nI_pred]
      refine S_f (nI_pos (by omega)) (S_bn1 ?_)
      obtain ⟨d1, d2, d3, d4⟩ := hdat
      obtain ⟨e1, e2, e3, e4, e5, e6⟩ := d4 n hn
      refine S_mono (hldC hp (by omega) d1 e1 e2 e3 e4) (fun o ho => ?_)
      obtain ⟨o1, o2⟩ := o
      obtain ⟨s1, s2, s3⟩ := ho
      dsimp only at s1 s2 s3 ⊢
      refine S_bn1 ?_
      have eif : (if nI n = σ (31 + 15 * p) 0 - 1 then some (o1, (1 : Int32)) else some (o1, 0)) = some (o1, if n + 1 = c then 1 else 0) := by
        rw [hd.2.1, nI_sub1 (by omega)]
        by_cases q : n + 1 = c
        · rw [if_pos (by rw [show c - 1 = n by omega]), if_pos q]
        · rw [if_neg (fun z => q (by have := (nI_eq (by omega) (by omega)).mp z; omega)), if_neg q]
      refine S_eq eif (S_bn0 ?_)
      dsimp only
      have fg1 : FgC σ' o1 p := fun k k1 k2 k3 => s2.1 k k1 (by omega)
      have g1' : ∀ m, n + 1 ≤ m → m < c → SegC o1 m (KN O P Q m) ∧ CsC (KN O P Q) M c o1 m := by
        intro m m1 m2
        obtain ⟨a1, a2⟩ := g1 m m1 m2
        refine ⟨⟨by rw [s2.2 m (by omega)]; exact a1.1, fun i hi => by rw [s2.1 _ (by omega) (by omega)]; exact a1.2 i hi⟩, fun i hi => by rw [s2.1 _ (by omega) (by omega)]; exact a2 i hi⟩
      refine S_mono (reckonC hp hn (FgC.dat hp fg1 ⟨d1, d2, d3, d4⟩) s1 (fun h => g1' (n + 1) (by omega) h)) (fun σ3 h3 => S_inl ?_)
      obtain ⟨r1, r2⟩ := h3
      dsimp only
      refine ⟨⟨n, (Int32.sub_eq_add_neg _ _).symm, by omega, fun m m1 m2 => ?_, fun k k1 k2 k3 => ?_⟩, ?_⟩
      · by_cases q : m = n
        · subst q
          exact ⟨⟨by rw [r2 5 (by omega)]; exact s1.1, fun i hi => by rw [r2 _ (by omega)]; exact s1.2 i hi⟩, r1⟩
        · obtain ⟨a1, a2⟩ := g1' m (by omega) m2
          exact ⟨⟨by rw [r2 5 (by omega)]; exact a1.1, fun i hi => by rw [r2 _ (by omega)]; exact a1.2 i hi⟩, fun i hi => by rw [r2 _ (by omega)]; exact a2 i hi⟩
      · rw [r2 k (by omega), fg1 k k1 k2 k3]
        exact g2 k k1 k2 k3
      · rw [nI_1, ix_nI (show n + 1 < 2 ^ 31 by omega)]
        rw [show nI n + (-1) + 1 = nI n by rw [Int32.add_assoc]; exact Int32.add_zero _, ix_nI (by omega)]
        omega
end FCf
