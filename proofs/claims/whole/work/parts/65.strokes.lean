/-! ===== strokes ===== -/
theorem strokesM {τ : Mm} {p c : Nat} {M d : Nat → Nat} (hp : p < 3) (h : MkM τ p c M) (hd : ∀ n, n < c → τ 17 (12 * p + n) = nI (d n) ∧ d n < 2) (h0 : 0 < c → M 0 &&& 2 = 0) : Sat (lq4 (f_X6_strokes_s51 (nI p)) fu τ 0 0 0 0) (fun o => o = (τ, nI (ons (hkN M d) c), nI (ons (ptN M d) c), nI (ons (bgN M d) c))) := by
  obtain ⟨a1, a2, a3⟩ := h
  refine S_lq4 (fun τ' x y z w => τ' = τ ∧ ∃ j, w = nI j ∧ j ≤ c ∧ x = nI (ons (hkN M d) j) ∧ y = nI (ons (ptN M d) j) ∧ z = nI (ons (bgN M d) j)) (fun _ _ _ _ w => 12 - w.toNatClampNeg) ?_ fu τ 0 0 0 0 (by unfold fu; omega) ⟨rfl, 0, rfl, by omega, rfl, rfl, rfl⟩
  rintro τ' x y z w ⟨rfl, j, rfl, hj, rfl, rfl, rfl⟩
  unfold f_X6_strokes_s51
  refine S_chk (inb_nI hp (by decide)) ?_
  rw [ix_nI (show p < 2 ^ 31 by omega), a1]
  by_cases cj : j = c
  · subst cj
    exact S_t (nI_le (by omega) (by omega)) (S_inr rfl)
  · obtain ⟨x1, x2⟩ := hd j (by omega)
    obtain ⟨z1, z2⟩ := a3 j (by omega)
    have hj12 : j < 12 := by omega
    have ms1 := ms12 (j := j) (by omega)
    refine S_f (nI_ge (show j < c by omega) (by omega)) (S_bn1 ?_)
    rw [ix12 hp hj12]
    have sm : Sat (if nI j ≤ 0 then some (τ', (0 : Int32)) else chk (inb (nI (12 * p + j)) 36) (chk (inb (nI (12 * p + j) - 1) 36) (if τ' 17 (nI (12 * p + j)).toNatClampNeg = τ' 17 (nI (12 * p + j) - 1).toNatClampNeg then some (τ', 1) else some (τ', 0)))) (fun o => o = (τ', if j ≠ 0 ∧ d j = d (j - 1) then 1 else 0)) := by
      by_cases c0 : j = 0
      · subst c0
        refine S_t (by decide) (S_some ?_)
        rw [if_neg (by omega)]
      · obtain ⟨y1, y2⟩ := hd (j - 1) (by omega)
        have e1 : nI (12 * p + j) - 1 = nI (12 * p + (j - 1)) := by rw [nI_sub1 (by omega), show 12 * p + j - 1 = 12 * p + (j - 1) by omega]
        rw [e1, ix_nI (show 12 * p + j < 2 ^ 31 by omega), ix_nI (show 12 * p + (j - 1) < 2 ^ 31 by omega), x1, y1]
        refine S_f (nI_ge (a := 0) (by omega) (by omega)) (S_chk (in12 hp hj12) (S_chk (in12 hp (by omega)) ?_))
        by_cases c1 : d j = d (j - 1)
        · refine S_t (by rw [c1]) (S_some ?_)
          rw [if_pos ⟨c0, c1⟩]
        · refine S_f (fun q => c1 ((nI_eq (by omega) (by omega)).mp q)) (S_some ?_)
          rw [if_neg (fun q => c1 q.2)]
    refine S_mono sm (fun o ho => ?_)
    subst ho
    dsimp only
    refine S_b1 (is_eq (b := 2) hp hj12 z1 z2 (by decide)) ?_
    have fin : ∀ (a b e : Nat) (u v w : Int32), hkN M d j = a → ptN M d j = b → bgN M d j = e → u = nI a → v = nI b → w = nI e → (fun a : Mm × Int32 × Int32 × Int32 × Int32 => (a.1 = τ' ∧ ∃ j, a.2.2.2.2 = nI j ∧ j ≤ c ∧ a.2.1 = nI (ons (hkN M d) j) ∧ a.2.2.1 = nI (ons (ptN M d) j) ∧ a.2.2.2.1 = nI (ons (bgN M d) j)) ∧ 12 - a.2.2.2.2.toNatClampNeg < 12 - (nI j).toNatClampNeg) (τ', nI (ons (hkN M d) j) + u, nI (ons (ptN M d) j) + v, nI (ons (bgN M d) j) + w, nI j + 1) := by
      intro a b e u v w q1 q2 q3 q4 q5 q6
      refine ⟨⟨rfl, j + 1, nI_1 j, by omega, ?_, ?_, ?_⟩, ms1⟩
      · dsimp only
        rw [ons_s, q1, q4, nI_add]
      · dsimp only
        rw [ons_s, q2, q5, nI_add]
      · dsimp only
        rw [ons_s, q3, q6, nI_add]
    by_cases cs : j ≠ 0 ∧ d j = d (j - 1)
    · rw [if_pos cs]
      by_cases c2 : M j &&& 2 = 0
      · rw [if_pos c2]
        refine S_bn1 (S_f (by decide) (S_t rfl (S_some (S_bn1 (S_f (show ¬ (1 : Int32) = 0 by decide) (S_some (S_t rfl (S_inl (fin 1 0 1 1 0 1 ?_ ?_ ?_ rfl rfl rfl)))))))))
        · unfold hkN
          rw [if_neg cs.1, if_pos ⟨c2, cs.2⟩]
        · unfold ptN
          rw [if_neg cs.1, if_pos (Or.inl c2)]
        · unfold bgN
          rw [if_pos c2]
      · rw [if_neg c2]
        refine S_bn1 (S_f (by decide) (S_f (by decide) (S_some (S_bn1 (S_f (show ¬ (1 : Int32) = 0 by decide) (S_some (S_f (show ¬ (1 : Int32) = 0 by decide) (S_f (show ¬ (1 : Int32) = 0 by decide) (S_inl (fin 0 0 0 0 0 0 ?_ ?_ ?_ rfl rfl rfl))))))))))
        · unfold hkN
          rw [if_neg cs.1, if_neg (fun q => c2 q.1)]
        · unfold ptN
          rw [if_neg cs.1, if_pos (Or.inr cs.2)]
        · unfold bgN
          rw [if_neg c2, if_pos cs]
    · rw [if_neg cs]
      by_cases c2 : M j &&& 2 = 0
      · rw [if_pos c2]
        refine S_bn1 (S_t rfl (S_some (S_bn1 (S_t rfl (S_t rfl (S_some (S_t rfl (S_inl (fin 0 0 1 0 0 1 ?_ ?_ ?_ rfl rfl rfl)))))))))
        · unfold hkN
          by_cases c0 : j = 0
          · rw [if_pos c0]
          · rw [if_neg c0, if_neg (fun q => cs ⟨c0, q.2⟩)]
        · unfold ptN
          by_cases c0 : j = 0
          · rw [if_pos c0]
          · rw [if_neg c0, if_pos (Or.inl c2)]
        · unfold bgN
          rw [if_pos c2]
      · rw [if_neg c2]
        have c0 : j ≠ 0 := fun q => by
          subst q
          exact c2 (h0 (by omega))
        refine S_bn1 (S_t rfl (S_some (S_bn1 (S_t rfl (S_f (show ¬ (1 : Int32) = 0 by decide) (S_some (S_f (show ¬ (1 : Int32) = 0 by decide) (S_t rfl (S_inl (fin 0 1 1 0 1 1 ?_ ?_ ?_ rfl rfl rfl))))))))))
        · unfold hkN
          rw [if_neg c0, if_neg (fun q => c2 q.1)]
        · unfold ptN
          rw [if_neg c0, if_neg (fun q => q.elim c2 (fun q => cs ⟨c0, q⟩))]
        · unfold bgN
          rw [if_neg c2, if_neg cs]
set_option maxHeartbeats 1000000 in
theorem sim_strokes (σ τ : Mm) (a b m : Int32) (h : Rel σ τ) : Two (f_X5_strokes σ a b m) (f_X6_strokes τ a b m) := by
  unfold f_X5_strokes
  rcases rng a 0 2 (by decide) (by decide) with ⟨p, -, hp, rfl⟩ | ha
  · have hp' : p < 3 := by omega
    rcases rng b 0 1 (by decide) (by decide) with ⟨f, -, hf, rfl⟩ | hb
    · have hf' : f < 2 := by omega
      by_cases hm : m < nI 0 ∨ ¬ m ≤ nI 2
      · exact two (S_b1 (pa_yes hp') (S_on1 (S_b1 (io_n (lo := 0) (hi := 1) (by omega) hf (by decide)) (S_t rfl (S_b1 (io_no hm) (S_f (by decide) (S_some (S_b1 (ip_yes hp') (S_f (by decide) (S_b1 (in_n (lo := 0) (hi := 1) (by omega) hf (by decide)) (S_f (by decide) (S_b1 (in_no hm) (S_t rfl (S_some ⟨rfl, h⟩))))))))))))))
      · have m1 : ¬ m < nI 0 := fun q => hm (Or.inl q)
        have m2 : m ≤ nI 2 := Decidable.byContradiction (fun q => hm (Or.inr q))
        obtain ⟨O, c, P, Q, L, M, h'⟩ := id h
        have h9 : Rels σ τ O c P Q L M := h'
        obtain ⟨a1, hc, a3⟩ := h9.mkC hp'
        have hbl := bcost_le (M := M p) (f := f) hc
        apply two
        refine S_b1 (pa_yes hp') (S_on1 (S_b1 (io_n (lo := 0) (hi := 1) (by omega) hf (by decide)) (S_t rfl (S_b1 (io_yes m1 m2) (S_t rfl (S_chk (by rw [kd_part hp']; rfl) (S_b1 (from_eq hp' hf') (S_on1 (S_chk (by rw [kd_b hp' hf' rfl]; rfl) (S_bn0 (S_mono (workC hp' hf' rfl (h9.mkC hp')) (fun σ1 h1 => ?_))))))))))))
        obtain ⟨w1, w2, w3⟩ := h1
        refine S_b1 (there_eq hp' hf' rfl w1 (by omega)) ?_
        have r1 := h9.bw hp' hf' rfl w3
        have rM : ∀ {R : Mm × Int32 → Prop}, (∀ τ2 : Mm, Rel σ1 τ2 → bcost (M p) (c p) f < 1000000 → Sat (if m = 0 then some (τ2, nI (ons (hkN (M p) (dr (M p) (c p) f)) (c p))) else (if m = 1 then some (τ2, nI (ons (ptN (M p) (dr (M p) (c p) f)) (c p))) else some (τ2, nI (ons (bgN (M p) (dr (M p) (c p) f)) (c p))))) R) → (∀ τ2 : Mm, Rel σ1 τ2 → ¬ bcost (M p) (c p) f < 1000000 → R (τ2, -3)) → Sat (f_X6_strokes τ (nI p) (nI f) m) R := by
          intro R hR hR2
          unfold f_X6_strokes
          refine S_b1 (ip_yes hp') (S_f (by decide) (S_b1 (in_n (lo := 0) (hi := 1) (by omega) hf (by decide)) (S_f (by decide) (S_b1 (in_yes m1 m2) (S_f (by decide) (S_bn1 (S_mono (bowM hp' hf' (h9.mkM hp')) (fun o ho => ?_))))))))
          obtain ⟨u1, u2, u3, u4⟩ := ho
          have rr := r1.bm u3
          by_cases cb : bcost (M p) (c p) f < 1000000
          · obtain ⟨v1, v2⟩ := u1 cb
            refine S_t (by rw [v1]; exact nI_pos' (by omega)) (S_bn3 (S_mono (strokesM (d := dr (M p) (c p) f) hp' (rr.mkM hp') (fun n hn => ⟨v2 n hn, dr_lt hf' n⟩) (h' p hp').2.1.2) (fun o' ho' => ?_)))
            subst ho'
            exact hR o.1 rr.rel cb
          · exact S_f (by rw [u2 cb]; decide) (S_some (hR2 o.1 rr.rel cb))
        by_cases cb : bcost (M p) (c p) f < 1000000
        · rw [if_pos cb]
          refine S_f (by decide) ?_
          have hd : ∀ n, n < c p → σ1 (31 + 15 * p + 7 + 4 * f + 1) n = nI (dr (M p) (c p) f n) ∧ dr (M p) (c p) f n < 2 := fun n hn => ⟨w2 cb n hn, dr_lt hf' n⟩
          by_cases c0 : m = 0
          · exact S_t c0 (S_b1 (hooksC hp' hf' rfl (r1.mkC hp') hd) (S_some (rM (fun τ2 r2 _ => S_t c0 (S_some ⟨rfl, r2⟩)) (fun _ _ q => absurd cb q))))
          · refine S_f c0 (S_b1 (partedC hp' hf' rfl (r1.mkC hp') hd) ?_)
            by_cases c1 : m = 1
            · exact S_t c1 (S_some (rM (fun τ2 r2 _ => S_f c0 (S_t c1 (S_some ⟨rfl, r2⟩))) (fun _ _ q => absurd cb q)))
            · refine S_f c1 (S_b1 (slurC hp' (r1.mkC hp')) (S_some (rM (fun τ2 r2 _ => S_f c0 (S_f c1 (S_some ⟨?_, r2⟩))) (fun _ _ q => absurd cb q))))
              dsimp only
              have bs := bg_sum (M := M p) (d := dr (M p) (c p) f) (c p) (h' p hp').2.1.2
              rw [(r1.mkC hp').1, nI_add, pk_sub (by omega), show ons (ptN (M p) (dr (M p) (c p) f)) (c p) + c p - ons (slN (M p)) (c p) = ons (bgN (M p) (dr (M p) (c p) f)) (c p) by omega]
        · rw [if_neg cb]
          exact S_t rfl (S_some (rM (fun _ _ q => absurd q cb) (fun τ2 r2 _ => ⟨rfl, r2⟩)))
    · exact two (S_b1 (pa_yes hp') (S_on1 (S_b1 (io_no hb) (S_f (by decide) (S_some (S_b1 (ip_yes hp') (S_f (by decide) (S_b1 (in_no hb) (S_t rfl (S_some ⟨rfl, h⟩))))))))))
  · exact two (S_b1 (pa_no ha) (S_on0 (S_some (S_b1 (ip_no ha) (S_t rfl (S_some ⟨rfl, h⟩))))))
