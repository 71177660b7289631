/-! ===== what holds between the class's memory and the reference's ===== -/
theorem S_b1 {A1 β : Type} {e : Option (Mm × A1)} {a : Mm} {x : A1} {f : Mm → A1 → Option β} {P : β → Prop} (h : e = some (a, x)) (h2 : Sat (f a x) P) : Sat (bn1 e f) P := by
  rw [E_bn1 h]
  exact h2
theorem S_b0 {β : Type} {e : Option Mm} {a : Mm} {f : Mm → Option β} {P : β → Prop} (h : e = some a) (h2 : Sat (f a) P) : Sat (bn0 e f) P := by
  rw [E_bn0 h]
  exact h2
theorem S_on0 {α : Type} {a : Option α} {f : Nat → Option α} {P : α → Prop} (h : Sat a P) : Sat (onul none a f) P := h
theorem S_on1 {α : Type} {k : Nat} {a : Option α} {f : Nat → Option α} {P : α → Prop} (h : Sat (f k) P) : Sat (onul (some k) a f) P := h
/-- where the onset of a note lies -/
def ons (L : Nat → Nat) : Nat → Nat
  | 0 => 0
  | n + 1 => ons L n + L n
theorem ons_s (L : Nat → Nat) (n : Nat) : ons L (n + 1) = ons L n + L n := rfl
theorem ons_cong {L L' : Nat → Nat} : ∀ n, (∀ m, m < n → L m = L' m) → ons L n = ons L' n
  | 0, _ => rfl
  | n + 1, h => by rw [ons_s, ons_s, ons_cong n (fun m hm => h m (by omega)), h n (by omega)]
def up1 {α : Type} (f : Nat → α) (i : Nat) (v : α) : Nat → α := fun j => if j = i then v else f j
theorem up1_eq {α : Type} {f : Nat → α} {i : Nat} {v : α} : up1 f i v i = v := if_pos rfl
theorem up1_ne {α : Type} {f : Nat → α} {i j : Nat} {v : α} (h : j ≠ i) : up1 f i v j = f j := if_neg h
def LenC (σ : Mm) (p c : Nat) (L M : Nat → Nat) : Prop := (∀ n, n < c → σ (31 + 15 * p + 3) n = nI (L n) ∧ L n ≤ 16 ∧ σ (31 + 15 * p + 4) n = nI (ons L n)) ∧ (0 < c → M 0 &&& 2 = 0)
def CchC (σ : Mm) (p c : Nat) (O P Q M : Nat → Nat) : Prop := σ (31 + 15 * p) 2 = 0 ∨ (σ (31 + 15 * p) 2 = 1 ∧ σ (31 + 15 * p) 1 = nI (fcost (KN O P Q) M c) ∧ (fcost (KN O P Q) M c < 1000000 → ∀ n, n < c → σ (31 + 15 * p + 6) n = nI (chK (KN O P Q) M c n)))
def RelP (σ τ : Mm) (p c : Nat) (O P Q L M : Nat → Nat) : Prop := DatC σ p c O P Q M ∧ LenC σ p c L M ∧ CchC σ p c O P Q M ∧ DatM τ p c O P Q M ∧ ∀ n, n < c → τ 5 (12 * p + n) = nI (L n)
def Rel (σ τ : Mm) : Prop := ∃ (O c : Nat → Nat) (P Q L M : Nat → Nat → Nat), ∀ p, p < 3 → RelP σ τ p (c p) O (P p) (Q p) (L p) (M p)
def Two (x y : Option (Mm × Int32)) : Prop := ∃ (σ9 τ9 : Mm) (r : Int32), x = some (σ9, r) ∧ y = some (τ9, r) ∧ Rel σ9 τ9
theorem two {x y : Option (Mm × Int32)} (h : Sat x (fun o => Sat y (fun o' => o.2 = o'.2 ∧ Rel o.1 o'.1))) : Two x y := by
  obtain ⟨⟨σ9, r⟩, e1, ⟨τ9, r2⟩, e2, h3, h4⟩ := h
  dsimp only at h3 h4
  subst h3
  exact ⟨σ9, τ9, r, e1, e2, h4⟩
/-- both leave all as it was -/
theorem two_s {x y : Option (Mm × Int32)} {σ τ : Mm} (r : Int32) (h : Rel σ τ) (e1 : x = some (σ, r)) (e2 : y = some (τ, r)) : Two x y := ⟨σ, τ, r, e1, e2, h⟩
theorem RelP_same {σ τ σ' τ' : Mm} {p c : Nat} {O P Q L M : Nat → Nat} (h : RelP σ τ p c O P Q L M) (h1 : σ' 1 = σ 1) (h2 : ∀ j, j ≤ 6 → σ' (31 + 15 * p + j) = σ (31 + 15 * p + j)) (t1 : τ' 1 = τ 1) (t2 : τ' 2 p = τ 2 p) (t3 : ∀ k, 3 ≤ k → k < 7 → ∀ n, n < 12 → τ' k (12 * p + n) = τ k (12 * p + n)) : RelP σ' τ' p c O P Q L M := by
  obtain ⟨⟨a1, a2, a3, a4⟩, b, d, ⟨e1, e2, e3, e4⟩, f⟩ := h
  have z0 : σ' (31 + 15 * p) = σ (31 + 15 * p) := h2 0 (by omega)
  refine ⟨⟨?_, ?_, a3, ?_⟩, ?_, ?_, ⟨?_, ?_, e3, fun n hn => ?_⟩, fun n hn => ?_⟩
  · rw [h1]
    exact a1
  · rw [z0]
    exact a2
  · rw [h2 1 (by omega), h2 2 (by omega), h2 5 (by omega)]
    exact a4
  · unfold LenC at b ⊢
    rw [h2 3 (by omega), h2 4 (by omega)]
    exact b
  · unfold CchC at d ⊢
    rw [z0, h2 6 (by omega)]
    exact d
  · rw [t1]
    exact e1
  · rw [t2]
    exact e2
  · rw [t3 3 (by omega) (by omega) n (by omega), t3 4 (by omega) (by omega) n (by omega), t3 6 (by omega) (by omega) n (by omega)]
    exact e4 n hn
  · rw [t3 5 (by omega) (by omega) n (by omega)]
    exact f n hn
/-- rows that say nothing of a part may change -/
theorem Rel_same {σ τ σ' τ' : Mm} (h : Rel σ τ) (h1 : σ' 1 = σ 1) (h2 : ∀ p, p < 3 → ∀ j, j ≤ 6 → σ' (31 + 15 * p + j) = σ (31 + 15 * p + j)) (t1 : ∀ k, 1 ≤ k → k < 7 → τ' k = τ k) : Rel σ' τ' := by
  obtain ⟨O, c, P, Q, L, M, h⟩ := h
  refine ⟨O, c, P, Q, L, M, fun p hp => RelP_same (h p hp) h1 (h2 p hp) (t1 1 (by omega) (by omega)) (by rw [t1 2 (by omega) (by omega)]) (fun k k1 k2 n _ => by rw [t1 k (by omega) k2])⟩
/-- strings are tuned anew -/
theorem RelP_new {σ τ σ' τ' : Mm} {p c : Nat} {O O' P Q L M : Nat → Nat} (h : RelP σ τ p c O P Q L M) (h1 : ∀ s, s < 4 → σ' 1 s = nI (O' s) ∧ τ' 1 s = nI (O' s) ∧ O' s ≤ 60) (h2 : σ' (31 + 15 * p) 2 = 0) (h3 : σ' (31 + 15 * p) 0 = σ (31 + 15 * p) 0) (h4 : ∀ j, 1 ≤ j → j ≤ 6 → σ' (31 + 15 * p + j) = σ (31 + 15 * p + j)) (t2 : ∀ k, 2 ≤ k → k < 7 → τ' k = τ k) : RelP σ' τ' p c O' P Q L M := by
  obtain ⟨⟨a1, a2, a3, a4⟩, b, d, ⟨e1, e2, e3, e4⟩, f⟩ := h
  refine ⟨⟨fun s hs => ⟨(h1 s hs).1, (h1 s hs).2.2⟩, ?_, a3, ?_⟩, ?_, Or.inl h2, ⟨fun s hs => ⟨(h1 s hs).2.1, (h1 s hs).2.2⟩, ?_, e3, ?_⟩, ?_⟩
  · rw [h3]
    exact a2
  · rw [h4 1 (by omega) (by omega), h4 2 (by omega) (by omega), h4 5 (by omega) (by omega)]
    exact a4
  · unfold LenC at b ⊢
    rw [h4 3 (by omega) (by omega), h4 4 (by omega) (by omega)]
    exact b
  · rw [t2 2 (by omega) (by omega)]
    exact e2
  · rw [t2 3 (by omega) (by omega), t2 4 (by omega) (by omega), t2 6 (by omega) (by omega)]
    exact e4
  · rw [t2 5 (by omega) (by omega)]
    exact f
theorem tuneL (σ : Mm) : Sat (lq1 f_X5_tune_s38 fu σ 0) (fun σ' => (∀ p, p < 3 → σ' (31 + 15 * p) 2 = 0) ∧ ∀ k i, (i ≠ 2 ∨ ∀ p, p < 3 → k ≠ 31 + 15 * p) → σ' k i = σ k i) := by
  refine S_lq1 (fun σ' v => ∃ j, v = nI j ∧ j ≤ 3 ∧ (∀ p, p < j → σ' (31 + 15 * p) 2 = 0) ∧ ∀ k i, (i ≠ 2 ∨ ∀ p, p < 3 → k ≠ 31 + 15 * p) → σ' k i = σ k i) (fun _ v => 3 - v.toNatClampNeg) ?_ fu σ 0 (by unfold fu; omega) ⟨0, rfl, by omega, fun p hp => by omega, fun _ _ _ => rfl⟩
  rintro σ' v ⟨j, rfl, hj, g1, g2⟩
  unfold f_X5_tune_s38
  by_cases cj : j = 3
  · subst cj
    exact S_t (by decide) (S_inr ⟨g1, g2⟩)
  · have hj' : j < 3 := by omega
    refine S_f (nI_ge (b := 3) hj' (by decide)) (S_chk (inb_nI hj' (by decide)) ?_)
    rw [ix_nI (show j < 2 ^ 31 by omega)]
    refine S_chk (by rw [kd_part hj']; rfl) (S_nm (S_inl ?_))
    dsimp only
    refine ⟨⟨j + 1, nI_1 j, by omega, fun p hp => ?_, fun k i hk => ?_⟩, ?_⟩
    · by_cases q : p = j
      · subst q
        rw [ms_eq]
      · rw [ms_ne (by omega)]
        exact g1 p (by omega)
    · rw [ms_ap, if_neg, g2 k i hk]
      rintro ⟨rfl, rfl⟩
      rcases hk with hk | hk
      · exact hk rfl
      · exact hk j hj' rfl
    · rw [nI_1, ix_nI (show j + 1 < 2 ^ 31 by omega)]
      omega
theorem sim_tune (σ τ : Mm) (a b : Int32) (h : Rel σ τ) : Two (f_X5_tune σ a b) (f_X6_tune τ a b) := by
  unfold f_X5_tune f_X6_tune
  rcases rng a 0 3 (by decide) (by decide) with ⟨s, -, hs, rfl⟩ | ha
  · rcases rng b 0 60 (by decide) (by decide) with ⟨v, -, hv, rfl⟩ | hb
    · obtain ⟨O, c, P, Q, L, M, h⟩ := h
      apply two
      refine S_b1 (io_n (lo := 0) (hi := 3) (by omega) (by omega) (by decide)) (S_t rfl (S_b1 (io_n (lo := 0) (hi := 60) (by omega) (by omega) (by decide)) (S_t rfl (S_chk (inC_op (by omega)) (S_chk (inC_op (by omega)) (S_nm (S_bn0 (S_mono (tuneL _) (fun σ1 h1 => S_some ?_)))))))))
      refine S_b1 (in_n (lo := 0) (hi := 3) (by omega) (by omega) (by decide)) (S_f (by decide) (S_b1 (in_n (lo := 0) (hi := 60) (by omega) (by omega) (by decide)) (S_f (by decide) (S_chk (inb_nI (by omega) (by decide)) (S_chk (inb_nI (by omega) (by decide)) (S_nm (S_some ?_)))))))
      rw [ix_nI (show s < 2 ^ 31 by omega)] at h1 ⊢
      have q1 := ((h 0 (by omega)).1.1 s (by omega)).1
      have q2 := ((h 0 (by omega)).2.2.2.1.1 s (by omega)).1
      refine ⟨?_, up1 O s v, c, P, Q, L, M, fun p hp => ?_⟩
      · dsimp only
        rw [q1, q2]
      · dsimp only
        obtain ⟨h2, h3⟩ := h1
        refine RelP_new (h p hp) (fun s' hs' => ?_) (h2 p hp) ?_ (fun j j1 j2 => ?_) (fun k k1 k2 => ms_ne (by omega))
        · have u := ((h p hp).1.1 s' hs')
          have w := ((h p hp).2.2.2.1.1 s' hs').1
          rw [h3 1 s' (Or.inr (fun q _ => by omega))]
          by_cases e : s' = s
          · subst e
            rw [ms_eq, ms_eq, up1_eq]
            exact ⟨rfl, rfl, hv⟩
          · rw [ms_en e, ms_en e, up1_ne e]
            exact ⟨u.1, w, u.2⟩
        · rw [h3 _ _ (Or.inl (by decide)), ms_ne (by omega)]
        · funext i
          rw [h3 _ _ (Or.inr (fun q _ => by omega)), ms_ne (by omega)]
    · exact two (S_b1 (io_n (lo := 0) (hi := 3) (by omega) (by omega) (by decide)) (S_t rfl (S_b1 (io_no hb) (S_f (by decide) (S_some (S_b1 (in_n (lo := 0) (hi := 3) (by omega) (by omega) (by decide)) (S_f (by decide) (S_b1 (in_no hb) (S_t rfl (S_some ⟨rfl, h⟩))))))))))
  · exact two (S_b1 (io_no ha) (S_f (by decide) (S_some (S_b1 (in_no ha) (S_t rfl (S_some ⟨rfl, h⟩))))))
