/-! ===== stop and note ===== -/
theorem nI_m1 {v : Nat} (h : v < 2 ^ 31) : ¬ nI v = -1 := by
  intro q
  have e := congrArg Int32.toInt q
  rw [nI_toInt h] at e
  have : (-1 : Int32).toInt = -1 := by decide
  omega
theorem stopT {σ τ : Mm} {p n w : Nat} {O c : Nat → Nat} {P Q L M : Nat → Nat → Nat} (hp : p < 3) (hn : n < c p) (hw : w ≤ 80) (h' : ∀ p, p < 3 → RelP σ τ p (c p) O (P p) (Q p) (L p) (M p)) : Sat (f_X5_stop_t42 (31 + 15 * p) (nI n) (qI w) σ) (fun o => Sat (f_X6_stop_t46 (nI p) (nI n) (qI w) τ) (fun o' => o.2 = o'.2 ∧ Rel o.1 o'.1)) := by
  obtain ⟨⟨a1, a2, a3, a4⟩, ⟨b1, b2⟩, d, ⟨e1, e2, e3, e4⟩, f⟩ := h' p hp
  unfold f_X5_stop_t42 f_X6_stop_t46
  refine S_chk (by rw [kd_part hp]; rfl) (S_chk (inC_p hp (by decide) (by decide) (by omega)) (S_chk (inC_p hp (by decide) (by decide) (by omega)) (S_nm (S_nm (S_some ?_)))))
  rw [ix12 hp (show n < 12 by omega), ix_nI (show n < 2 ^ 31 by omega), ix_nI (show 12 * p + n < 2 ^ 31 by omega)]
  refine S_chk (in12 hp (by omega)) (S_chk (in12 hp (by omega)) (S_nm (S_some ?_)))
  refine ⟨?_, O, c, P, up1 Q p (up1 (Q p) n w), L, M, fun q hq => ?_⟩
  · dsimp only
    rw [(a4 n hn).2.2.1, (e4 n hn).2.2.1]
  · dsimp only
    by_cases e : q = p
    · subst e
      rw [up1_eq]
      refine ⟨⟨fun s hs => ?_, ?_, a3, fun k hk => ?_⟩, ⟨fun k hk => ?_, b2⟩, Or.inl ms_eq, ⟨fun s hs => ?_, ?_, e3, fun k hk => ?_⟩, fun k hk => ?_⟩
      · rw [ms_ne (by omega), ms_ne (by omega)]
        exact a1 s hs
      · rw [ms_en (by decide), ms_ne (by omega)]
        exact a2
      · obtain ⟨x1, x2, x3, x4, x5, x6⟩ := a4 k hk
        simp (disch := omega) only [ms_ne]
        by_cases ek : k = n
        · subst ek
          rw [ms_eq, up1_eq]
          exact ⟨x1, x2, rfl, hw, x5, x6⟩
        · rw [ms_en ek, up1_ne ek]
          exact ⟨x1, x2, x3, x4, x5, x6⟩
      · rw [ms_ne (by omega), ms_ne (by omega), ms_ne (by omega), ms_ne (by omega)]
        exact b1 k hk
      · rw [ms_ne (by omega)]
        exact e1 s hs
      · rw [ms_ne (by omega)]
        exact e2
      · obtain ⟨x1, x2, x3, x4, x5, x6⟩ := e4 k hk
        rw [ms_ne (by omega), ms_ne (show 6 ≠ 4 by omega)]
        by_cases ek : k = n
        · subst ek
          rw [ms_eq, up1_eq]
          exact ⟨x1, x2, rfl, hw, x5, x6⟩
        · rw [ms_en (by omega), up1_ne ek]
          exact ⟨x1, x2, x3, x4, x5, x6⟩
      · rw [ms_ne (by omega)]
        exact f k hk
    · rw [up1_ne e]
      refine RelP_same (h' q hq) ?_ (fun j hj => ?_) (ms_ne (by omega)) (by rw [ms_ne (by omega)]) (fun k k1 k2 i hi => ?_)
      · rw [ms_ne (by omega), ms_ne (by omega)]
      · rw [ms_ne (by omega), ms_ne (by omega)]
      · rw [ms_ap, if_neg (by omega)]
theorem sim_stop (σ τ : Mm) (a b m : Int32) (h : Rel σ τ) : Two (f_X5_stop σ a b m) (f_X6_stop τ a b m) := by
  unfold f_X5_stop f_X6_stop
  rcases rng a 0 2 (by decide) (by decide) with ⟨p, -, hp, rfl⟩ | ha
  · have hp' : p < 3 := by omega
    obtain ⟨O, c, P, Q, L, M, h'⟩ := id h
    obtain ⟨⟨a1, a2, a3, a4⟩, ⟨b1, b2⟩, d, ⟨e1, e2, e3, e4⟩, f⟩ := h' p hp'
    rcases cnt_c b a3 with ⟨n, hn, rfl⟩ | hb
    · have hn12 : n < 12 := by omega
      by_cases c1 : m = -1
      · apply two
        refine S_b1 (pw_yes hp' a2 a3 hn) (S_on1 (S_t c1 ?_))
        rw [show m = qI 0 from c1]
        refine S_mono (stopT (w := 0) hp' hn (by omega) h') (fun o ho => ?_)
        exact S_b1 (nt_yes hp' e2 e3 hn) (S_f (by decide) (S_t rfl ho))
      · have hP := (a4 n hn).2.1
        rcases rng m (P p n + 1) 80 (by decide) (by omega) with ⟨v, hv1, hv2, rfl⟩ | hm
        · have ev : nI v = qI v := by
            unfold qI
            rw [if_neg (by omega)]
          apply two
          refine S_b1 (pw_yes hp' a2 a3 hn) (S_on1 (S_f c1 (S_chk (by rw [kd_part hp']; rfl) (S_chk (inC_p hp' (by decide) (by decide) hn12) ?_))))
          rw [ix_nI (show n < 2 ^ 31 by omega), (a4 n hn).1, nI_1]
          refine S_b1 (io_n (hi := 80) hv1 hv2 (by decide)) (S_t rfl ?_)
          rw [ev]
          refine S_mono (stopT hp' hn hv2 h') (fun o ho => ?_)
          rw [← ev]
          refine S_b1 (nt_yes hp' e2 e3 hn) (S_f (by decide) (S_f c1 ?_))
          rw [ix12 hp' hn12]
          refine S_chk (in12 hp' hn12) ?_
          rw [ix_nI (show 12 * p + n < 2 ^ 31 by omega), (e4 n hn).1, nI_1]
          refine S_b1 (in_n (hi := 80) hv1 hv2 (by decide)) (S_f (by decide) ?_)
          rw [ev]
          exact ho
        · apply two
          refine S_b1 (pw_yes hp' a2 a3 hn) (S_on1 (S_f c1 (S_chk (by rw [kd_part hp']; rfl) (S_chk (inC_p hp' (by decide) (by decide) hn12) ?_))))
          rw [ix_nI (show n < 2 ^ 31 by omega), (a4 n hn).1, nI_1]
          refine S_b1 (io_no hm) (S_f (by decide) (S_some ?_))
          refine S_b1 (nt_yes hp' e2 e3 hn) (S_f (by decide) (S_f c1 ?_))
          rw [ix12 hp' hn12]
          refine S_chk (in12 hp' hn12) ?_
          rw [ix_nI (show 12 * p + n < 2 ^ 31 by omega), (e4 n hn).1, nI_1]
          exact S_b1 (in_no hm) (S_t rfl (S_some ⟨rfl, h⟩))
    · exact two (S_b1 (pw_no2 hp' a2 hb) (S_on0 (S_some (S_b1 (nt_no2 hp' e2 hb) (S_t rfl (S_some ⟨rfl, h⟩))))))
  · exact two (S_b1 (pw_no1 ha) (S_on0 (S_some (S_b1 (nt_no1 ha) (S_t rfl (S_some ⟨rfl, h⟩))))))
theorem appC {σ : Mm} {p n : Nat} {a l m w : Int32} (hp : p < 3) (hn : n < 12) (h : σ (31 + 15 * p) 0 = nI n) (h0 : n = 0 → w = 0) (h1 : 0 < n → σ (31 + 15 * p + 4) (n - 1) + σ (31 + 15 * p + 3) (n - 1) = w) : f_X3_append σ (31 + 15 * p) a l m = some (ms (ms (ms (ms (ms (ms (ms σ (31 + 15 * p + 1) n a) (31 + 15 * p + 2) n (-1)) (31 + 15 * p + 3) n l) (31 + 15 * p + 4) n w) (31 + 15 * p + 5) n m) (31 + 15 * p) 0 (nI (n + 1))) (31 + 15 * p) 2 0) := by
  unfold f_X3_append
  have z : ∀ j, 1 ≤ j → 31 + 15 * p ≠ 31 + 15 * p + j := fun j hj => by omega
  have key : Sat (if nI n = 0 then some (ms (ms (ms σ (31 + 15 * p + 1) n a) (31 + 15 * p + 2) n (-1)) (31 + 15 * p + 3) n l, (0 : Int32)) else chk (inC (31 + 15 * p + 4) (nI n - 1)) (chk (inC (31 + 15 * p + 3) (nI n - 1)) (some (ms (ms (ms σ (31 + 15 * p + 1) n a) (31 + 15 * p + 2) n (-1)) (31 + 15 * p + 3) n l, ms (ms (ms σ (31 + 15 * p + 1) n a) (31 + 15 * p + 2) n (-1)) (31 + 15 * p + 3) n l (31 + 15 * p + 4) (nI n - 1).toNatClampNeg + ms (ms (ms σ (31 + 15 * p + 1) n a) (31 + 15 * p + 2) n (-1)) (31 + 15 * p + 3) n l (31 + 15 * p + 3) (nI n - 1).toNatClampNeg)))) (fun o => o = (ms (ms (ms σ (31 + 15 * p + 1) n a) (31 + 15 * p + 2) n (-1)) (31 + 15 * p + 3) n l, w)) := by
    by_cases c0 : n = 0
    · subst c0
      refine S_t rfl (S_some ?_)
      rw [h0 rfl]
    · rw [nI_sub1 (by omega), ix_nI (by omega)]
      refine S_f (nI_ne0 (by omega) (by omega)) (S_chk (inC_p hp (by decide) (by decide) (by omega)) (S_chk (inC_p hp (by decide) (by decide) (by omega)) (S_some ?_)))
      rw [ms_ne (by omega), ms_ne (by omega), ms_ne (by omega), ms_en (by omega), ms_ne (by omega), ms_ne (by omega), h1 (by omega)]
  obtain ⟨o, hk, rfl⟩ := key
  rw [chk_t (by rw [kd_part hp]; rfl), h, if_neg (nI_pos (by omega)), if_pos (show nI n < 12 from nI_lt (b := 12) hn (by decide)), chk_t (inC_p hp (by decide) (by decide) hn), ix_nI (show n < 2 ^ 31 by omega)]
  unfold nm
  dsimp only
  rw [ms_ne (z 1 (by omega)), h, chk_t (inC_p hp (by decide) (by decide) hn), ix_nI (show n < 2 ^ 31 by omega)]
  rw [ms_ne (z 2 (by omega)), ms_ne (z 1 (by omega)), h, chk_t (inC_p hp (by decide) (by decide) hn), ix_nI (show n < 2 ^ 31 by omega)]
  rw [ms_ne (z 3 (by omega)), ms_ne (z 2 (by omega)), ms_ne (z 1 (by omega)), h, E_bn1 hk, chk_t (inC_p hp (by decide) (by decide) hn), ix_nI (show n < 2 ^ 31 by omega)]
  rw [ms_ne (z 4 (by omega)), ms_ne (z 3 (by omega)), ms_ne (z 2 (by omega)), ms_ne (z 1 (by omega)), h, chk_t (inC_p hp (by decide) (by decide) hn), ix_nI (show n < 2 ^ 31 by omega)]
  rw [ms_ne (z 5 (by omega)), ms_ne (z 4 (by omega)), ms_ne (z 3 (by omega)), ms_ne (z 2 (by omega)), ms_ne (z 1 (by omega)), h, nI_1]
