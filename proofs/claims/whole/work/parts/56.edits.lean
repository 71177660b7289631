/-! ===== stop, mark, cut, note ===== -/
theorem fa_and15 {m b : Nat} (hm : m < 16) (hb : b < 16) : (nI m &&& nI b = 0) ↔ m &&& b = 0 := and_nI hm hb
/-- whether marks may be so -/
def mok (n m : Nat) : Prop := m &&& 2 = 0 ∨ (0 < n ∧ m &&& 1 = 0)
theorem marks_eq {σ : Mm} {n m : Nat} (hn : n ≤ 12) (hm : m < 16) : (mok n m → f_X5_marksMayBe σ (nI n) (nI m) = some (σ, 1)) ∧ (¬ mok n m → f_X5_marksMayBe σ (nI n) (nI m) = some (σ, 0)) := by
  unfold f_X5_marksMayBe mok
  have e2 := and_nI hm (b := 2) (by decide)
  have e1 := and_nI hm (b := 1) (by decide)
  by_cases c2 : m &&& 2 = 0
  · rw [if_pos (show nI m &&& 2 = 0 from e2.mpr c2)]
    refine ⟨fun _ => ?_, fun h => absurd (Or.inl c2) h⟩
    rw [E_bn1 rfl]
    by_cases c1 : m &&& 1 = 0
    · rw [if_pos (show nI m &&& 1 = 0 from e1.mpr c1), E_bn1 rfl, if_pos rfl]
    · rw [if_neg (show ¬ nI m &&& 1 = 0 from fun q => c1 (e1.mp q)), E_bn1 rfl, if_pos rfl]
  · rw [if_neg (show ¬ nI m &&& 2 = 0 from fun q => c2 (e2.mp q)), E_bn1 rfl]
    by_cases c1 : m &&& 1 = 0
    · rw [if_pos (show nI m &&& 1 = 0 from e1.mpr c1), E_bn1 rfl, if_neg (by decide)]
      by_cases c0 : n = 0
      · subst c0
        exact ⟨fun h => by omega, fun _ => rfl⟩
      · refine ⟨fun _ => ?_, fun h => absurd (Or.inr ⟨by omega, c1⟩) h⟩
        rw [if_neg (show ¬ nI n ≤ 0 from nI_ge (a := 0) (by omega) (by omega)), if_pos rfl]
    · rw [if_neg (show ¬ nI m &&& 1 = 0 from fun q => c1 (e1.mp q)), E_bn1 rfl, if_neg (by decide)]
      refine ⟨fun h => by omega, fun _ => ?_⟩
      by_cases c0 : nI n ≤ 0
      · rw [if_pos c0]
      · rw [if_neg c0, if_neg (by decide)]
theorem marksM_eq {τ : Mm} {n m : Nat} (hn : n ≤ 12) (hm : m < 16) : (mok n m → f_X6_areMarks τ (nI n) (nI m) = some (τ, 1)) ∧ (¬ mok n m → f_X6_areMarks τ (nI n) (nI m) = some (τ, 0)) := by
  unfold f_X6_areMarks mok
  rw [E_bn1 (show f_X6_has τ (nI m) 2 = _ from has_eq (b := 2) hm (by decide))]
  by_cases c2 : m &&& 2 = 0
  · rw [if_pos c2, if_pos rfl]
    exact ⟨fun _ => rfl, fun h => absurd (Or.inl c2) h⟩
  · rw [if_neg c2, if_neg (by decide)]
    by_cases c0 : n = 0
    · subst c0
      exact ⟨fun h => by omega, fun _ => rfl⟩
    · rw [if_neg (show ¬ nI n ≤ 0 from nI_ge (a := 0) (by omega) (by omega)), E_bn1 (show f_X6_has τ (nI m) 1 = _ from has_eq (b := 1) hm (by decide))]
      by_cases c1 : m &&& 1 = 0
      · rw [if_pos c1, if_pos rfl]
        exact ⟨fun _ => rfl, fun h => absurd (Or.inr ⟨by omega, c1⟩) h⟩
      · rw [if_neg c1, if_neg (by decide)]
        exact ⟨fun h => by omega, fun _ => rfl⟩
theorem sim_cut (σ τ : Mm) (a : Int32) (h : Rel σ τ) : Two (f_X5_cut σ a) (f_X6_cut τ a) := by
  unfold f_X5_cut f_X6_cut
  rcases rng a 0 2 (by decide) (by decide) with ⟨p, -, hp, rfl⟩ | ha
  · have hp' : p < 3 := by omega
    obtain ⟨O, c, P, Q, L, M, h'⟩ := id h
    obtain ⟨⟨a1, a2, a3, a4⟩, ⟨b1, b2⟩, d, ⟨e1, e2, e3, e4⟩, f⟩ := h' p hp'
    apply two
    refine S_b1 (pa_yes hp') (S_on1 (S_chk (by rw [kd_part hp']; rfl) ?_))
    rw [a2]
    by_cases c0 : c p = 0
    · rw [c0]
      refine S_f (by decide) (S_some (S_b1 (ip_yes hp') (S_f (by decide) (S_chk (inb_nI hp' (by decide)) (S_t ?_ (S_some ⟨rfl, h⟩))))))
      rw [ix_nI (show p < 2 ^ 31 by omega), e2, c0]
      rfl
    · refine S_t (show 0 < nI (c p) from nI_lt (a := 0) (by omega) (by omega)) (S_nm (S_nm (S_some ?_)))
      refine S_b1 (ip_yes hp') (S_f (by decide) ?_)
      rw [ix_nI (show p < 2 ^ 31 by omega), e2, nI_sub1 (by omega)]
      refine (S_chk (inb_nI hp' (by decide)) (S_f (nI_ne0 (by omega) (by omega)) (S_chk (inb_nI hp' (by decide)) (S_chk (inb_nI hp' (by decide)) (S_nm (S_chk (inb_nI hp' (by decide)) (S_some ?_)))))))
      refine ⟨?_, O, up1 c p (c p - 1), P, Q, L, M, fun q hq => ?_⟩
      · dsimp only
        rw [ms_en (by decide), ms_eq, ms_eq]
      · dsimp only
        by_cases e : q = p
        · subst e
          rw [up1_eq]
          refine ⟨⟨fun s hs => ?_, ?_, by omega, fun n hn => ?_⟩, ⟨fun n hn => ?_, fun hc => b2 (by omega)⟩, Or.inl ms_eq, ⟨fun s hs => ?_, ms_eq, by omega, fun n hn => ?_⟩, fun n hn => ?_⟩
          · rw [ms_ne (by omega), ms_ne (by omega)]
            exact a1 s hs
          · rw [ms_en (by decide), ms_eq]
          · rw [ms_ne (by omega), ms_ne (by omega), ms_ne (by omega), ms_ne (by omega), ms_ne (by omega), ms_ne (by omega)]
            exact a4 n (by omega)
          · rw [ms_ne (by omega), ms_ne (by omega), ms_ne (by omega), ms_ne (by omega)]
            exact b1 n (by omega)
          · rw [ms_ne (by omega)]
            exact e1 s hs
          · rw [ms_ne (by omega), ms_ne (by omega), ms_ne (by omega)]
            exact e4 n (by omega)
          · rw [ms_ne (by omega)]
            exact f n (by omega)
        · rw [up1_ne e]
          refine RelP_same (h' q hq) ?_ (fun j hj => ?_) (ms_ne (by omega)) (ms_en e) (fun k k1 k2 n hn => by rw [ms_ne (by omega)])
          · rw [ms_ne (by omega), ms_ne (by omega)]
          · rw [ms_ne (by omega), ms_ne (by omega)]
  · exact two (S_b1 (pa_no ha) (S_on0 (S_some (S_b1 (ip_no ha) (S_t rfl (S_some ⟨rfl, h⟩))))))
/-- a row of marks or seconds gets a new number -/
theorem sim_mark (σ τ : Mm) (a b m : Int32) (h : Rel σ τ) : Two (f_X5_mark σ a b m) (f_X6_mark τ a b m) := by
  unfold f_X5_mark f_X6_mark
  rcases rng a 0 2 (by decide) (by decide) with ⟨p, -, hp, rfl⟩ | ha
  · have hp' : p < 3 := by omega
    obtain ⟨O, c, P, Q, L, M, h'⟩ := id h
    obtain ⟨⟨a1, a2, a3, a4⟩, ⟨b1, b2⟩, d, ⟨e1, e2, e3, e4⟩, f⟩ := h' p hp'
    rcases cnt_c b a3 with ⟨n, hn, rfl⟩ | hb
    · rcases rng m 0 15 (by decide) (by decide) with ⟨v, -, hv, rfl⟩ | hm
      · by_cases ok : mok n v
        · apply two
          refine S_b1 (pw_yes hp' a2 a3 hn) (S_on1 (S_b1 (io_n (lo := 0) (hi := 15) (by omega) (by omega) (by decide)) (S_t rfl (S_b1 ((marks_eq (by omega) (by omega)).1 ok) (S_f (by decide) (S_chk (by rw [kd_part hp']; rfl) (S_chk (inC_p hp' (by decide) (by decide) (by omega)) (S_chk (inC_p hp' (by decide) (by decide) (by omega)) (S_nm (S_nm (S_some ?_)))))))))))
          refine S_b1 (nt_yes hp' e2 e3 hn) (S_f (by decide) (S_b1 (in_n (lo := 0) (hi := 15) (by omega) (by omega) (by decide)) (S_f (by decide) (S_b1 ((marksM_eq (by omega) (by omega)).1 ok) (S_f (by decide) ?_)))))
          rw [ix12 hp' (show n < 12 by omega), ix_nI (show n < 2 ^ 31 by omega), ix_nI (show 12 * p + n < 2 ^ 31 by omega)]
          refine S_chk (in12 hp' (by omega)) (S_chk (in12 hp' (by omega)) (S_nm (S_some ?_)))
          refine ⟨?_, O, c, P, Q, L, up1 M p (up1 (M p) n v), fun q hq => ?_⟩
          · dsimp only
            rw [(a4 n hn).2.2.2.2.1, (e4 n hn).2.2.2.2.1]
          · dsimp only
            by_cases e : q = p
            · subst e
              rw [up1_eq]
              refine ⟨⟨fun s hs => ?_, ?_, a3, fun k hk => ?_⟩, ⟨fun k hk => ?_, fun hc => ?_⟩, Or.inl ms_eq, ⟨fun s hs => ?_, ?_, e3, fun k hk => ?_⟩, fun k hk => ?_⟩
              · rw [ms_ne (by omega), ms_ne (by omega)]
                exact a1 s hs
              · rw [ms_en (by decide), ms_ne (by omega)]
                exact a2
              · obtain ⟨x1, x2, x3, x4, x5, x6⟩ := a4 k hk
                rw [ms_ne (by omega), ms_ne (by omega), ms_ne (by omega), ms_ne (by omega), ms_ne (by omega)]
                by_cases ek : k = n
                · subst ek
                  rw [ms_eq, up1_eq]
                  exact ⟨x1, x2, x3, x4, rfl, by omega⟩
                · rw [ms_en ek, up1_ne ek]
                  exact ⟨x1, x2, x3, x4, x5, x6⟩
              · rw [ms_ne (by omega), ms_ne (by omega), ms_ne (by omega), ms_ne (by omega)]
                exact b1 k hk
              · by_cases e0 : 0 = n
                · subst e0
                  rw [up1_eq]
                  unfold mok at ok
                  omega
                · rw [up1_ne e0]
                  exact b2 hc
              · rw [ms_ne (by omega)]
                exact e1 s hs
              · rw [ms_ne (by omega)]
                exact e2
              · obtain ⟨x1, x2, x3, x4, x5, x6⟩ := e4 k hk
                rw [ms_ne (by omega), ms_ne (by omega)]
                by_cases ek : k = n
                · subst ek
                  rw [ms_eq, up1_eq]
                  exact ⟨x1, x2, x3, x4, rfl, by omega⟩
                · rw [ms_en (by omega), up1_ne ek]
                  exact ⟨x1, x2, x3, x4, x5, x6⟩
              · rw [ms_ne (by omega)]
                exact f k hk
            · rw [up1_ne e]
              refine RelP_same (h' q hq) ?_ (fun j hj => ?_) (ms_ne (by omega)) (by rw [ms_ne (by omega)]) (fun k k1 k2 i hi => ?_)
              · rw [ms_ne (by omega), ms_ne (by omega)]
              · rw [ms_ne (by omega), ms_ne (by omega)]
              · rw [ms_ap, if_neg (by omega)]
        · exact two (S_b1 (pw_yes hp' a2 a3 hn) (S_on1 (S_b1 (io_n (lo := 0) (hi := 15) (by omega) (by omega) (by decide)) (S_t rfl (S_b1 ((marks_eq (by omega) (by omega)).2 ok) (S_t rfl (S_some (S_b1 (nt_yes hp' e2 e3 hn) (S_f (by decide) (S_b1 (in_n (lo := 0) (hi := 15) (by omega) (by omega) (by decide)) (S_f (by decide) (S_b1 ((marksM_eq (by omega) (by omega)).2 ok) (S_t rfl (S_some ⟨rfl, h⟩))))))))))))))
      · exact two (S_b1 (pw_yes hp' a2 a3 hn) (S_on1 (S_b1 (io_no hm) (S_f (by decide) (S_some (S_b1 (nt_yes hp' e2 e3 hn) (S_f (by decide) (S_b1 (in_no hm) (S_t rfl (S_some ⟨rfl, h⟩))))))))))
    · exact two (S_b1 (pw_no2 hp' a2 hb) (S_on0 (S_some (S_b1 (nt_no2 hp' e2 hb) (S_t rfl (S_some ⟨rfl, h⟩))))))
  · exact two (S_b1 (pw_no1 ha) (S_on0 (S_some (S_b1 (nt_no1 ha) (S_t rfl (S_some ⟨rfl, h⟩))))))
