/-! ===== note ===== -/
theorem noteM {τ : Mm} {p n v l m : Nat} (hp : p < 3) (hn : n < 12) (e2 : τ 2 p = nI n) (hv : v ≤ 80) (hl : 1 ≤ l) (hl2 : l ≤ 16) (hm : m ≤ 15) (ok : mok n m) : f_X6_note τ (nI p) (nI v) (nI l) (nI m) = some (ms (ms (ms (ms (ms τ 3 (12 * p + n) (nI v)) 4 (12 * p + n) (-1)) 5 (12 * p + n) (nI l)) 6 (12 * p + n) (nI m)) 2 p (nI (n + 1)), nI n) := by
  have key : Sat (f_X6_note τ (nI p) (nI v) (nI l) (nI m)) (fun o => o = (ms (ms (ms (ms (ms τ 3 (12 * p + n) (nI v)) 4 (12 * p + n) (-1)) 5 (12 * p + n) (nI l)) 6 (12 * p + n) (nI m)) 2 p (nI (n + 1)), nI n)) := by
    unfold f_X6_note
    refine S_b1 (ip_yes hp) (S_f (by decide) (S_b1 (in_n (lo := 0) (hi := 80) (by omega) hv (by decide)) (S_f (by decide) (S_b1 (in_n (lo := 1) (hi := 16) hl hl2 (by decide)) (S_f (by decide) (S_b1 (in_n (lo := 0) (hi := 15) (by omega) hm (by decide)) (S_f (by decide) (S_chk (inb_nI hp (by decide)) ?_))))))))
    rw [ix_nI (show p < 2 ^ 31 by omega), e2]
    refine S_b1 ((marksM_eq (by omega) (by omega)).1 ok) (S_f (by decide) (S_chk (inb_nI hp (by decide)) ?_))
    rw [e2, ix12 hp hn, ix_nI (show 12 * p + n < 2 ^ 31 by omega)]
    refine S_f (fun q => by have := (nI_eq (b := 12) (by omega) (by omega)).mp q; omega) (S_chk (inb_nI hp (by decide)) (S_chk (in12 hp hn) (S_nm (S_chk (in12 hp hn) (S_nm (S_chk (in12 hp hn) (S_nm (S_chk (in12 hp hn) (S_nm (S_chk (inb_nI hp (by decide)) (S_chk (inb_nI hp (by decide)) (S_nm (S_chk (inb_nI hp (by decide)) (S_some ?_))))))))))))))
    rw [ms_ne (show 2 ≠ 6 by decide), ms_ne (show 2 ≠ 5 by decide), ms_ne (show 2 ≠ 4 by decide), ms_ne (show 2 ≠ 3 by decide), e2, ms_eq, nI_1, nI_pred]
  obtain ⟨o, h1, rfl⟩ := key
  exact h1
set_option maxHeartbeats 1000000 in
theorem sim_note (σ τ : Mm) (a b l m : Int32) (h : Rel σ τ) : Two (f_X5_note σ a b l m) (f_X6_note τ a b l m) := by
  rcases rng a 0 2 (by decide) (by decide) with ⟨p, -, hp, rfl⟩ | ha
  · have hp' : p < 3 := by omega
    obtain ⟨O, c, P, Q, L, M, h'⟩ := id h
    obtain ⟨⟨a1, a2, a3, a4⟩, ⟨b1, b2⟩, d, ⟨e1, e2, e3, e4⟩, f⟩ := h' p hp'
    rcases rng b 0 80 (by decide) (by decide) with ⟨v, -, hv, rfl⟩ | hb
    · rcases rng l 1 16 (by decide) (by decide) with ⟨l, hl, hl2, rfl⟩ | hl
      · rcases rng m 0 15 (by decide) (by decide) with ⟨m, -, hm, rfl⟩ | hm
        · by_cases ok : mok (c p) m
          · by_cases c12 : c p = 12
            · unfold f_X5_note f_X6_note
              apply two
              refine S_b1 (pa_yes hp') (S_on1 (S_b1 (io_n (lo := 0) (hi := 80) (by omega) hv (by decide)) (S_t rfl (S_b1 (io_n (lo := 1) (hi := 16) hl hl2 (by decide)) (S_t rfl (S_b1 (io_n (lo := 0) (hi := 15) (by omega) hm (by decide)) (S_t rfl (S_chk (by rw [kd_part hp']; rfl) ?_))))))))
              rw [a2]
              refine S_b1 ((marks_eq (by omega) (by omega)).1 ok) (S_f (by decide) ?_)
              rw [a2]
              refine S_f (nI_nlt (b := 12) (by omega) (by omega)) (S_some ?_)
              refine S_b1 (ip_yes hp') (S_f (by decide) (S_b1 (in_n (lo := 0) (hi := 80) (by omega) hv (by decide)) (S_f (by decide) (S_b1 (in_n (lo := 1) (hi := 16) hl hl2 (by decide)) (S_f (by decide) (S_b1 (in_n (lo := 0) (hi := 15) (by omega) hm (by decide)) (S_f (by decide) (S_chk (inb_nI hp' (by decide)) ?_))))))))
              rw [ix_nI (show p < 2 ^ 31 by omega), e2]
              refine S_b1 ((marksM_eq (by omega) (by omega)).1 ok) (S_f (by decide) (S_chk (inb_nI hp' (by decide)) ?_))
              rw [e2]
              exact S_t (by rw [c12]; rfl) (S_some ⟨rfl, h⟩)
            · have hc : c p < 12 := by omega
              unfold f_X5_note
              apply two
              refine S_b1 (pa_yes hp') (S_on1 (S_b1 (io_n (lo := 0) (hi := 80) (by omega) hv (by decide)) (S_t rfl (S_b1 (io_n (lo := 1) (hi := 16) hl hl2 (by decide)) (S_t rfl (S_b1 (io_n (lo := 0) (hi := 15) (by omega) hm (by decide)) (S_t rfl (S_chk (by rw [kd_part hp']; rfl) ?_))))))))
              rw [a2]
              refine S_b1 ((marks_eq (by omega) (by omega)).1 ok) (S_f (by decide) ?_)
              rw [a2]
              refine S_t (nI_lt (b := 12) (by omega) (by omega)) ?_
              refine S_b0 (appC (w := nI (ons (L p) (c p))) hp' hc a2 (fun q => by rw [q]; rfl) (fun q => ?_)) (S_some (S_eq (noteM hp' hc e2 hv hl hl2 hm ok) ?_))
              · obtain ⟨x1, x2, x3⟩ := b1 (c p - 1) (by omega)
                rw [x1, x3, nI_add, ← ons_s, show c p - 1 + 1 = c p by omega]
              · refine ⟨?_, O, up1 c p (c p + 1), up1 P p (up1 (P p) (c p) v), up1 Q p (up1 (Q p) (c p) 0), up1 L p (up1 (L p) (c p) l), up1 M p (up1 (M p) (c p) m), fun q hq => ?_⟩
                · dsimp only
                  rw [ms_en (by decide), ms_eq, nI_pred]
                · dsimp only
                  by_cases e : q = p
                  · subst e
                    rw [up1_eq, up1_eq, up1_eq, up1_eq, up1_eq]
                    have eo : ∀ k, k ≤ c q → ons (up1 (L q) (c q) l) k = ons (L q) k := fun k hk => ons_cong k (fun j hj => up1_ne (by omega))
                    refine ⟨⟨fun s hs => ?_, ?_, by omega, fun k hk => ?_⟩, ⟨fun k hk => ?_, fun hc0 => ?_⟩, Or.inl ms_eq, ⟨fun s hs => ?_, ms_eq, by omega, fun k hk => ?_⟩, fun k hk => ?_⟩
                    · simp (disch := omega) only [ms_ne]
                      exact a1 s hs
                    · rw [ms_en (by decide), ms_eq]
                    · simp (disch := omega) only [ms_ne]
                      by_cases ek : k = c q
                      · subst ek
                        rw [ms_eq, ms_eq, ms_eq, up1_eq, up1_eq, up1_eq]
                        exact ⟨rfl, hv, rfl, by omega, rfl, by omega⟩
                      · rw [ms_en ek, ms_en ek, ms_en ek, up1_ne ek, up1_ne ek, up1_ne ek]
                        simp (disch := omega) only [ms_ne]
                        exact a4 k (by omega)
                    · simp (disch := omega) only [ms_ne]
                      rw [eo k (by omega)]
                      by_cases ek : k = c q
                      · subst ek
                        rw [ms_eq, ms_eq, up1_eq]
                        exact ⟨rfl, hl2, rfl⟩
                      · rw [ms_en ek, ms_en ek, up1_ne ek]
                        simp (disch := omega) only [ms_ne]
                        exact b1 k (by omega)
                    · by_cases e0 : 0 = c q
                      · rw [← e0] at ok ⊢
                        rw [up1_eq]
                        unfold mok at ok
                        omega
                      · rw [up1_ne e0]
                        exact b2 (by omega)
                    · simp (disch := omega) only [ms_ne]
                      exact e1 s hs
                    · simp (disch := omega) only [ms_ne]
                      by_cases ek : k = c q
                      · subst ek
                        rw [ms_eq, ms_eq, ms_eq, up1_eq, up1_eq, up1_eq]
                        exact ⟨rfl, hv, rfl, by omega, rfl, by omega⟩
                      · rw [ms_en (by omega), ms_en (by omega), ms_en (by omega), up1_ne ek, up1_ne ek, up1_ne ek]
                        exact e4 k (by omega)
                    · simp (disch := omega) only [ms_ne]
                      by_cases ek : k = c q
                      · subst ek
                        rw [ms_eq, up1_eq]
                      · rw [ms_en (by omega), up1_ne ek]
                        exact f k (by omega)
                  · rw [up1_ne e, up1_ne e, up1_ne e, up1_ne e, up1_ne e]
                    refine RelP_same (h' q hq) ?_ (fun j hj => ?_) ?_ ?_ (fun k k1 k2 i hi => ?_)
                    · simp (disch := omega) only [ms_ne]
                    · simp (disch := omega) only [ms_ne]
                    · simp (disch := omega) only [ms_ne]
                    · rw [ms_en e]
                      simp (disch := omega) only [ms_ne]
                    · rw [ms_ap, if_neg (by omega), ms_ap, if_neg (by omega), ms_ap, if_neg (by omega), ms_ap, if_neg (by omega), ms_ap, if_neg (by omega)]
          · unfold f_X5_note f_X6_note
            apply two
            refine S_b1 (pa_yes hp') (S_on1 (S_b1 (io_n (lo := 0) (hi := 80) (by omega) hv (by decide)) (S_t rfl (S_b1 (io_n (lo := 1) (hi := 16) hl hl2 (by decide)) (S_t rfl (S_b1 (io_n (lo := 0) (hi := 15) (by omega) hm (by decide)) (S_t rfl (S_chk (by rw [kd_part hp']; rfl) ?_))))))))
            rw [a2]
            refine S_b1 ((marks_eq (by omega) (by omega)).2 ok) (S_t rfl (S_some ?_))
            refine S_b1 (ip_yes hp') (S_f (by decide) (S_b1 (in_n (lo := 0) (hi := 80) (by omega) hv (by decide)) (S_f (by decide) (S_b1 (in_n (lo := 1) (hi := 16) hl hl2 (by decide)) (S_f (by decide) (S_b1 (in_n (lo := 0) (hi := 15) (by omega) hm (by decide)) (S_f (by decide) (S_chk (inb_nI hp' (by decide)) ?_))))))))
            rw [ix_nI (show p < 2 ^ 31 by omega), e2]
            exact S_b1 ((marksM_eq (by omega) (by omega)).2 ok) (S_t rfl (S_some ⟨rfl, h⟩))
        · unfold f_X5_note f_X6_note
          exact two (S_b1 (pa_yes hp') (S_on1 (S_b1 (io_n (lo := 0) (hi := 80) (by omega) hv (by decide)) (S_t rfl (S_b1 (io_n (lo := 1) (hi := 16) hl hl2 (by decide)) (S_t rfl (S_b1 (io_no hm) (S_f (by decide) (S_some (S_b1 (ip_yes hp') (S_f (by decide) (S_b1 (in_n (lo := 0) (hi := 80) (by omega) hv (by decide)) (S_f (by decide) (S_b1 (in_n (lo := 1) (hi := 16) hl hl2 (by decide)) (S_f (by decide) (S_b1 (in_no hm) (S_t rfl (S_some ⟨rfl, h⟩))))))))))))))))))
      · unfold f_X5_note f_X6_note
        exact two (S_b1 (pa_yes hp') (S_on1 (S_b1 (io_n (lo := 0) (hi := 80) (by omega) hv (by decide)) (S_t rfl (S_b1 (io_no hl) (S_f (by decide) (S_some (S_b1 (ip_yes hp') (S_f (by decide) (S_b1 (in_n (lo := 0) (hi := 80) (by omega) hv (by decide)) (S_f (by decide) (S_b1 (in_no hl) (S_t rfl (S_some ⟨rfl, h⟩))))))))))))))
    · unfold f_X5_note f_X6_note
      exact two (S_b1 (pa_yes hp') (S_on1 (S_b1 (io_no hb) (S_f (by decide) (S_some (S_b1 (ip_yes hp') (S_f (by decide) (S_b1 (in_no hb) (S_t rfl (S_some ⟨rfl, h⟩))))))))))
  · unfold f_X5_note f_X6_note
    exact two (S_b1 (pa_no ha) (S_on0 (S_some (S_b1 (ip_no ha) (S_t rfl (S_some ⟨rfl, h⟩))))))
