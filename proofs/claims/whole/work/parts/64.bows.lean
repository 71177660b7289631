/-! ===== bow, stroke, strokes ===== -/
section BS
variable {σ τ : Mm} {p f k0 : Nat} {O c : Nat → Nat} {P Q L M : Nat → Nat → Nat}
theorem Rels.mkC (h : Rels σ τ O c P Q L M) (hp : p < 3) : MkC σ p (c p) (M p) := ⟨(h p hp).1.2.1, (h p hp).1.2.2.1, fun n hn => ⟨((h p hp).1.2.2.2 n hn).2.2.2.2.1, ((h p hp).1.2.2.2 n hn).2.2.2.2.2⟩⟩
theorem Rels.mkM (h : Rels σ τ O c P Q L M) (hp : p < 3) : MkM τ p (c p) (M p) := ⟨(h p hp).2.2.2.1.2.1, (h p hp).2.2.2.1.2.2.1, fun n hn => ⟨((h p hp).2.2.2.1.2.2.2 n hn).2.2.2.2.1, ((h p hp).2.2.2.1.2.2.2 n hn).2.2.2.2.2⟩⟩
theorem Rels.bw {σ' : Mm} (h : Rels σ τ O c P Q L M) (hp : p < 3) (hf : f < 2) (hk : k0 = 31 + 15 * p + 7 + 4 * f) (h2 : ∀ k, (k < k0 ∨ k0 + 3 < k) → σ' k = σ k) : Rels σ' τ O c P Q L M := fun q hq => RelP_same (h q hq) (h2 1 (by omega)) (fun j hj => h2 _ (by rcases (show q ≤ p ∨ p + 1 ≤ q by omega) with e | e <;> omega)) rfl rfl (fun _ _ _ _ _ => rfl)
theorem Rels.bm {τ' : Mm} (h : Rels σ τ O c P Q L M) (h2 : ∀ k, k ≠ 16 → k ≠ 17 → τ' k = τ k) : Rels σ τ' O c P Q L M := h.fg (fun k _ _ => h2 k (by omega) (by omega))
theorem from_eq (hp : p < 3) (hf : f < 2) : f_X3_bowingFrom σ (31 + 15 * p) (nI f) = some (σ, some (31 + 15 * p + 7 + 4 * f)) := by
  unfold f_X3_bowingFrom
  rcases (show f = 0 ∨ f = 1 by omega) with rfl | rfl
  · rw [if_pos (show nI 0 = 0 from rfl), chk_t (by rw [kd_part hp]; rfl)]
  · rw [if_neg (show ¬ nI 1 = 0 by decide), chk_t (by rw [kd_part hp]; rfl)]
theorem there_eq {b : Nat} (hp : p < 3) (hf : f < 2) (hk : k0 = 31 + 15 * p + 7 + 4 * f) (h : σ k0 0 = nI b) (hb : b ≤ 1000000) : f_X0_isThere σ k0 = some (σ, if b < 1000000 then 1 else 0) := by
  unfold f_X0_isThere
  rw [chk_t (by rw [kd_b hp hf hk]; rfl), h]
  by_cases cb : b < 1000000
  · rw [if_neg (show ¬ (1000000 : Int32) ≤ nI b from nI_ge (b := 1000000) cb (by decide)), if_pos cb]
  · rw [if_pos (show (1000000 : Int32) ≤ nI b from nI_le (a := 1000000) (by omega) (by omega)), if_neg cb]
end BS
theorem sim_bow (σ τ : Mm) (a b : Int32) (h : Rel σ τ) : Two (f_X5_bow σ a b) (f_X6_bow τ a b) := by
  unfold f_X5_bow f_X6_bow
  rcases rng a 0 2 (by decide) (by decide) with ⟨p, -, hp, rfl⟩ | ha
  · have hp' : p < 3 := by omega
    rcases rng b 0 1 (by decide) (by decide) with ⟨f, -, hf, rfl⟩ | hb
    · have hf' : f < 2 := by omega
      obtain ⟨O, c, P, Q, L, M, h'⟩ := h
      have h9 : Rels σ τ O c P Q L M := h'
      have hc := (h9.mkC hp').2.1
      have hbl := bcost_le (M := M p) (f := f) hc
      apply two
      refine S_b1 (pa_yes hp') (S_on1 (S_b1 (io_n (lo := 0) (hi := 1) (by omega) hf (by decide)) (S_t rfl (S_chk (by rw [kd_part hp']; rfl) (S_b1 (from_eq hp' hf') (S_on1 (S_chk (by rw [kd_b hp' hf' rfl]; rfl) (S_bn0 (S_mono (workC hp' hf' rfl (h9.mkC hp')) (fun σ1 h1 => ?_))))))))))
      obtain ⟨w1, w2, w3⟩ := h1
      refine S_b1 (there_eq hp' hf' rfl w1 (by omega)) ?_
      have r1 := h9.bw hp' hf' rfl w3
      have rM : ∀ {R : Mm × Int32 → Prop}, (∀ o : Mm × Int32, ((bcost (M p) (c p) f < 1000000 → o.2 = nI (bcost (M p) (c p) f)) ∧ (¬ bcost (M p) (c p) f < 1000000 → o.2 = -3) ∧ Rel σ1 o.1) → R o) → Sat (bn1 (f_X6_isPart τ (nI p)) (fun σ1 r1 => (if r1 = 0 then some (σ1, (-1)) else bn1 (f_X6_in σ1 (nI f) 0 1) (fun σ3 r3 => (if r3 = 0 then some (σ3, (-1)) else bn1 (f_X6_makeBows σ3 (nI p) (nI f)) (fun σ5 r5 => some (σ5, r5))))))) R := by
        intro R hR
        refine S_b1 (ip_yes hp') (S_f (by decide) (S_b1 (in_n (lo := 0) (hi := 1) (by omega) hf (by decide)) (S_f (by decide) (S_bn1 (S_mono (bowM hp' hf' (h9.mkM hp')) (fun o ho => S_some ?_))))))
        obtain ⟨u1, u2, u3, u4⟩ := ho
        exact hR _ ⟨fun q => (u1 q).1, u2, (r1.bm u3).rel⟩
      by_cases cb : bcost (M p) (c p) f < 1000000
      · rw [if_pos cb]
        refine S_f (by decide) (S_some (rM (fun o ho => ⟨?_, ho.2.2⟩)))
        exact w1.trans (ho.1 cb).symm
      · rw [if_neg cb]
        refine S_t rfl (S_some (rM (fun o ho => ⟨?_, ho.2.2⟩)))
        exact (ho.2.1 cb).symm
    · exact two (S_b1 (pa_yes hp') (S_on1 (S_b1 (io_no hb) (S_f (by decide) (S_some (S_b1 (ip_yes hp') (S_f (by decide) (S_b1 (in_no hb) (S_t rfl (S_some ⟨rfl, h⟩))))))))))
  · exact two (S_b1 (pa_no ha) (S_on0 (S_some (S_b1 (ip_no ha) (S_t rfl (S_some ⟨rfl, h⟩))))))
theorem sim_stroke (σ τ : Mm) (a m b : Int32) (h : Rel σ τ) : Two (f_X5_stroke σ a m b) (f_X6_stroke τ a m b) := by
  unfold f_X5_stroke
  rcases rng a 0 2 (by decide) (by decide) with ⟨p, -, hp, rfl⟩ | ha
  · have hp' : p < 3 := by omega
    obtain ⟨O, c, P, Q, L, M, h'⟩ := id h
    have h9 : Rels σ τ O c P Q L M := h'
    obtain ⟨a1, hc, a3⟩ := h9.mkC hp'
    obtain ⟨e1, -, e3⟩ := h9.mkM hp'
    rcases cnt_c m hc with ⟨n, hn, rfl⟩ | hm
    · have hn12 : n < 12 := by omega
      rcases rng b 0 1 (by decide) (by decide) with ⟨f, -, hf, rfl⟩ | hb
      · have hf' : f < 2 := by omega
        have hbl := bcost_le (M := M p) (f := f) hc
        apply two
        refine S_b1 (pw_yes hp' a1 hc hn) (S_on1 (S_b1 (io_n (lo := 0) (hi := 1) (by omega) hf (by decide)) (S_t rfl (S_chk (by rw [kd_part hp']; rfl) (S_b1 (from_eq hp' hf') (S_on1 (S_chk (by rw [kd_b hp' hf' rfl]; rfl) (S_bn0 (S_mono (workC hp' hf' rfl (h9.mkC hp')) (fun σ1 h1 => ?_))))))))))
        obtain ⟨w1, w2, w3⟩ := h1
        refine S_b1 (there_eq hp' hf' rfl w1 (by omega)) ?_
        have r1 := h9.bw hp' hf' rfl w3
        have rM : ∀ {R : Mm × Int32 → Prop}, (∀ o : Mm × Int32, ((bcost (M p) (c p) f < 1000000 → o.2 = nI (dr (M p) (c p) f n)) ∧ (¬ bcost (M p) (c p) f < 1000000 → o.2 = -3) ∧ Rel σ1 o.1) → R o) → Sat (f_X6_stroke τ (nI p) (nI n) (nI f)) R := by
          intro R hR
          unfold f_X6_stroke
          refine S_b1 (nt_yes hp' e1 hc hn) (S_f (by decide) (S_b1 (in_n (lo := 0) (hi := 1) (by omega) hf (by decide)) (S_f (by decide) (S_bn1 (S_mono (bowM hp' hf' (h9.mkM hp')) (fun o ho => ?_))))))
          obtain ⟨u1, u2, u3, u4⟩ := ho
          by_cases cb : bcost (M p) (c p) f < 1000000
          · obtain ⟨v1, v2⟩ := u1 cb
            refine S_t (by rw [v1]; exact nI_pos' (by omega)) ?_
            rw [ix12 hp' hn12, ix_nI (show 12 * p + n < 2 ^ 31 by omega)]
            exact S_chk (in12 hp' hn12) (S_some (hR _ ⟨fun _ => v2 n hn, fun q => absurd cb q, (r1.bm u3).rel⟩))
          · refine S_f (by rw [u2 cb]; decide) (S_some (hR _ ⟨fun q => absurd q cb, fun _ => rfl, (r1.bm u3).rel⟩))
        by_cases cb : bcost (M p) (c p) f < 1000000
        · rw [if_pos cb]
          refine S_f (by decide) (S_chk (inC_b hp' hf' rfl (by decide) (by decide) hn12) (S_some (rM (fun o ho => ⟨?_, ho.2.2⟩))))
          dsimp only
          rw [ix_nI (show n < 2 ^ 31 by omega), w2 cb n hn, ho.1 cb]
        · rw [if_neg cb]
          refine S_t rfl (S_some (rM (fun o ho => ⟨?_, ho.2.2⟩)))
          exact (ho.2.1 cb).symm
      · exact two (S_b1 (pw_yes hp' a1 hc hn) (S_on1 (S_b1 (io_no hb) (S_f (by decide) (S_some (S_b1 (nt_yes hp' e1 hc hn) (S_f (by decide) (S_b1 (in_no hb) (S_t rfl (S_some ⟨rfl, h⟩))))))))))
    · exact two (S_b1 (pw_no2 hp' a1 hm) (S_on0 (S_some (S_b1 (nt_no2 hp' e1 hm) (S_t rfl (S_some ⟨rfl, h⟩))))))
  · exact two (S_b1 (pw_no1 ha) (S_on0 (S_some (S_b1 (nt_no1 ha) (S_t rfl (S_some ⟨rfl, h⟩))))))
/-! ===== what strokes counts ===== -/
def hkN (M d : Nat → Nat) (n : Nat) : Nat := if n = 0 then 0 else if M n &&& 2 = 0 ∧ d n = d (n - 1) then 1 else 0
def ptN (M d : Nat → Nat) (n : Nat) : Nat := if n = 0 then 0 else if M n &&& 2 = 0 ∨ d n = d (n - 1) then 0 else 1
def slN (M : Nat → Nat) (n : Nat) : Nat := if M n &&& 2 = 0 then 0 else 1
def bgN (M d : Nat → Nat) (n : Nat) : Nat := if M n &&& 2 = 0 then 1 else if n ≠ 0 ∧ d n = d (n - 1) then 0 else 1
theorem bg_sum {M d : Nat → Nat} : ∀ c, (0 < c → M 0 &&& 2 = 0) → ons (bgN M d) c + ons (slN M) c = ons (ptN M d) c + c
  | 0, _ => rfl
  | n + 1, h => by
    have ih := bg_sum (d := d) n (fun q => h (by omega))
    rw [ons_s, ons_s, ons_s]
    have e : bgN M d n + slN M n = ptN M d n + 1 := by
      unfold bgN slN ptN
      by_cases c0 : n = 0
      · subst c0
        rw [if_pos (h (by omega)), if_pos (h (by omega)), if_pos rfl]
      · rw [if_neg c0]
        by_cases c2 : M n &&& 2 = 0
        · rw [if_pos c2, if_pos c2, if_pos (Or.inl c2)]
        · rw [if_neg c2, if_neg c2]
          by_cases c1 : d n = d (n - 1)
          · rw [if_pos ⟨c0, c1⟩, if_pos (Or.inr c1)]
          · rw [if_neg (fun q => c1 q.2), if_neg (by omega)]
    omega
section BQ
variable {σ : Mm} {p f k0 c : Nat} {M d : Nat → Nat}
theorem ms12 {j : Nat} (h : j < 12) : 12 - (nI j + 1).toNatClampNeg < 12 - (nI j).toNatClampNeg := by
  rw [nI_1, ix_nI (show j + 1 < 2 ^ 31 by omega), ix_nI (show j < 2 ^ 31 by omega)]
  omega
theorem hooksC (hp : p < 3) (hf : f < 2) (hk : k0 = 31 + 15 * p + 7 + 4 * f) (h : MkC σ p c M) (hd : ∀ n, n < c → σ (k0 + 1) n = nI (d n) ∧ d n < 2) : f_X0_countHooks σ k0 (31 + 15 * p) = some (σ, nI (ons (hkN M d) c)) := by
  obtain ⟨a1, a2, a3⟩ := h
  have key : Sat (f_X0_countHooks σ k0 (31 + 15 * p)) (fun o => o = (σ, nI (ons (hkN M d) c))) := by
    unfold f_X0_countHooks
    refine S_bn1 ?_
    refine S_lq2 (fun σ' s v => σ' = σ ∧ ∃ j, v = nI j ∧ 1 ≤ j ∧ (j ≤ c ∨ j = 1) ∧ s = nI (ons (hkN M d) j)) (fun _ _ v => 12 - v.toNatClampNeg) ?_ fu σ 0 1 (by unfold fu; omega) ⟨rfl, 1, rfl, by omega, by omega, rfl⟩
    rintro σ' s v ⟨rfl, j, rfl, j1, j2, rfl⟩
    unfold f_X0_countHooks_s4
    refine S_chk (by rw [kd_part hp]; rfl) ?_
    rw [a1]
    by_cases cj : c ≤ j
    · refine S_t (nI_le cj (by omega)) (S_inr (S_some ?_))
      by_cases e : j = c
      · rw [e]
      · have e1 : c = 0 := by omega
        have e2 : j = 1 := by omega
        rw [e1, e2]
        rfl
    · obtain ⟨x1, x2⟩ := hd j (by omega)
      obtain ⟨y1, y2⟩ := hd (j - 1) (by omega)
      obtain ⟨z1, z2⟩ := a3 j (by omega)
      refine S_f (nI_ge (show j < c by omega) (by omega)) (S_b1 (mk_eq (b := 2) hp (by omega) z1 z2 (by decide)) ?_)
      have ms1 := ms12 (j := j) (by omega)
      have same : (hkN M d j = 0) → nI (ons (hkN M d) j) = nI (ons (hkN M d) (j + 1)) := fun q => by rw [ons_s, q]; rfl
      by_cases c2 : M j &&& 2 = 0
      · rw [if_pos c2]
        have e0 : (nI j - 1).toNatClampNeg = j - 1 := by rw [nI_sub1 (by omega), ix_nI (by omega)]
        refine S_t rfl (S_chk (by rw [kd_b hp hf hk]; rfl) (S_chk (inC_b hp hf hk (by decide) (by decide) (by omega)) (S_chk (by rw [nI_sub1 (by omega)]; exact inC_b hp hf hk (by decide) (by decide) (by omega)) ?_)))
        by_cases c1 : d j = d (j - 1)
        · refine S_t (by rw [e0, ix_nI (by omega), x1, y1, c1]) (S_inl ⟨⟨rfl, j + 1, nI_1 j, by omega, by omega, ?_⟩, ms1⟩)
          dsimp only
          rw [ons_s]
          unfold hkN
          rw [if_neg (by omega), if_pos ⟨c2, c1⟩, ← nI_1]
        · refine S_f (by rw [e0, ix_nI (by omega), x1, y1]; exact fun q => c1 ((nI_eq (by omega) (by omega)).mp q)) (S_inl ⟨⟨rfl, j + 1, nI_1 j, by omega, by omega, same ?_⟩, ms1⟩)
          unfold hkN
          rw [if_neg (by omega), if_neg (fun q => c1 q.2)]
      · rw [if_neg c2]
        refine S_f (by decide) (S_inl ⟨⟨rfl, j + 1, nI_1 j, by omega, by omega, same ?_⟩, ms1⟩)
        unfold hkN
        rw [if_neg (by omega), if_neg (fun q => c2 q.1)]
  obtain ⟨o, h1, rfl⟩ := key
  exact h1
theorem partedC (hp : p < 3) (hf : f < 2) (hk : k0 = 31 + 15 * p + 7 + 4 * f) (h : MkC σ p c M) (hd : ∀ n, n < c → σ (k0 + 1) n = nI (d n) ∧ d n < 2) : f_X0_countParted σ k0 (31 + 15 * p) = some (σ, nI (ons (ptN M d) c)) := by
  obtain ⟨a1, a2, a3⟩ := h
  have key : Sat (f_X0_countParted σ k0 (31 + 15 * p)) (fun o => o = (σ, nI (ons (ptN M d) c))) := by
    unfold f_X0_countParted
    refine S_bn1 ?_
    refine S_lq2 (fun σ' s v => σ' = σ ∧ ∃ j, v = nI j ∧ 1 ≤ j ∧ (j ≤ c ∨ j = 1) ∧ s = nI (ons (ptN M d) j)) (fun _ _ v => 12 - v.toNatClampNeg) ?_ fu σ 0 1 (by unfold fu; omega) ⟨rfl, 1, rfl, by omega, by omega, rfl⟩
    rintro σ' s v ⟨rfl, j, rfl, j1, j2, rfl⟩
    unfold f_X0_countParted_s4
    refine S_chk (by rw [kd_part hp]; rfl) ?_
    rw [a1]
    by_cases cj : c ≤ j
    · refine S_t (nI_le cj (by omega)) (S_inr (S_some ?_))
      by_cases e : j = c
      · rw [e]
      · have e1 : c = 0 := by omega
        have e2 : j = 1 := by omega
        rw [e1, e2]
        rfl
    · obtain ⟨x1, x2⟩ := hd j (by omega)
      obtain ⟨y1, y2⟩ := hd (j - 1) (by omega)
      obtain ⟨z1, z2⟩ := a3 j (by omega)
      refine S_f (nI_ge (show j < c by omega) (by omega)) (S_b1 (mk_eq (b := 2) hp (by omega) z1 z2 (by decide)) ?_)
      have ms1 := ms12 (j := j) (by omega)
      have same : (ptN M d j = 0) → nI (ons (ptN M d) j) = nI (ons (ptN M d) (j + 1)) := fun q => by rw [ons_s, q]; rfl
      by_cases c2 : M j &&& 2 = 0
      · rw [if_pos c2]
        refine S_t rfl (S_inl ⟨⟨rfl, j + 1, nI_1 j, by omega, by omega, same ?_⟩, ms1⟩)
        unfold ptN
        rw [if_neg (by omega), if_pos (Or.inl c2)]
      · rw [if_neg c2]
        have e0 : (nI j - 1).toNatClampNeg = j - 1 := by rw [nI_sub1 (by omega), ix_nI (by omega)]
        refine S_f (by decide) (S_chk (by rw [kd_b hp hf hk]; rfl) (S_chk (inC_b hp hf hk (by decide) (by decide) (by omega)) (S_chk (by rw [nI_sub1 (by omega)]; exact inC_b hp hf hk (by decide) (by decide) (by omega)) ?_)))
        by_cases c1 : d j = d (j - 1)
        · refine S_t (by rw [e0, ix_nI (by omega), x1, y1, c1]) (S_inl ⟨⟨rfl, j + 1, nI_1 j, by omega, by omega, same ?_⟩, ms1⟩)
          unfold ptN
          rw [if_neg (by omega), if_pos (Or.inr c1)]
        · refine S_f (by rw [e0, ix_nI (by omega), x1, y1]; exact fun q => c1 ((nI_eq (by omega) (by omega)).mp q)) (S_inl ⟨⟨rfl, j + 1, nI_1 j, by omega, by omega, ?_⟩, ms1⟩)
          dsimp only
          rw [ons_s]
          unfold ptN
          rw [if_neg (by omega), if_neg (by omega), ← nI_1]
  obtain ⟨o, h1, rfl⟩ := key
  exact h1
theorem slurC (hp : p < 3) (h : MkC σ p c M) : f_X3_countSlurred σ (31 + 15 * p) = some (σ, nI (ons (slN M) c)) := by
  obtain ⟨a1, a2, a3⟩ := h
  have key : Sat (f_X3_countSlurred σ (31 + 15 * p)) (fun o => o = (σ, nI (ons (slN M) c))) := by
    unfold f_X3_countSlurred
    refine S_bn1 ?_
    refine S_lq2 (fun σ' s v => σ' = σ ∧ ∃ j, v = nI j ∧ j ≤ c ∧ s = nI (ons (slN M) j)) (fun _ _ v => 12 - v.toNatClampNeg) ?_ fu σ 0 0 (by unfold fu; omega) ⟨rfl, 0, rfl, by omega, rfl⟩
    rintro σ' s v ⟨rfl, j, rfl, j2, rfl⟩
    unfold f_X3_countSlurred_s4
    refine S_chk (by rw [kd_part hp]; rfl) ?_
    rw [a1]
    by_cases cj : j = c
    · subst cj
      exact S_t (nI_le (by omega) (by omega)) (S_inr (S_some rfl))
    · obtain ⟨z1, z2⟩ := a3 j (by omega)
      refine S_f (nI_ge (show j < c by omega) (by omega)) (S_b1 (mk_eq (b := 2) hp (by omega) z1 z2 (by decide)) ?_)
      have ms1 := ms12 (j := j) (by omega)
      by_cases c2 : M j &&& 2 = 0
      · rw [if_pos c2]
        refine S_t rfl (S_inl ⟨⟨rfl, j + 1, nI_1 j, by omega, ?_⟩, ms1⟩)
        rw [ons_s]
        unfold slN
        rw [if_pos c2]
        rfl
      · rw [if_neg c2]
        refine S_f (by decide) (S_inl ⟨⟨rfl, j + 1, nI_1 j, by omega, ?_⟩, ms1⟩)
        dsimp only
        rw [ons_s]
        unfold slN
        rw [if_neg c2, ← nI_1]
  obtain ⟨o, h1, rfl⟩ := key
  exact h1
end BQ
