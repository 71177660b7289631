/-! ===== the reference's holds: one pitch on one string ===== -/
def vw (h : Int) (w : Nat) : List Nat := if 0 ≤ hv w h then [w] else []
def wl (h : Int) : List Nat := W9.flatMap (vw h)
/-- the ways found so far, at one place -/
def OM (τ0 τ : Mm) (pl : Nat) (h : Int) (l : List Nat) : Prop := (∀ i, i < l.length → τ 12 (9 * pl + i) = nI (l.getD i 0) ∧ τ 11 (9 * pl + i) = nI (hv (l.getD i 0) h).toNat) ∧ (∀ k, k ≠ 11 → k ≠ 12 → τ k = τ0 k) ∧ ∀ k, k = 11 ∨ k = 12 → ∀ i, (i < 9 * pl ∨ 9 * pl + 9 ≤ i) → τ k i = τ0 k i
theorem getD_snoc {l : List Nat} {x i : Nat} : (l ++ [x]).getD i 0 = if i < l.length then l.getD i 0 else if i = l.length then x else 0 := by
  simp only [List.getD_eq_getElem?_getD]
  by_cases h1 : i < l.length
  · rw [if_pos h1, List.getElem?_append_left h1]
  · rw [if_neg h1, List.getElem?_append_right (by omega)]
    by_cases h2 : i = l.length
    · subst h2
      rw [if_pos rfl, Nat.sub_self]
      rfl
    · rw [if_neg h2, List.getElem?_eq_none (by simp; omega)]
      rfl
theorem OM_add {τ0 τ : Mm} {pl w : Nat} {h : Int} {l : List Nat} (hO : OM τ0 τ pl h l) (hl : l.length < 9) : OM τ0 (ms (ms τ 11 (9 * pl + l.length) (nI (hv w h).toNat)) 12 (9 * pl + l.length) (nI w)) pl h (l ++ [w]) := by
  obtain ⟨h1, h2, h3⟩ := hO
  refine ⟨fun i hi => ?_, fun k k1 k2 => ?_, fun k hk i hi => ?_⟩
  · rw [List.length_append] at hi
    simp at hi
    rw [getD_snoc, ms_ne (show 11 ≠ 12 by omega)]
    by_cases c : i = l.length
    · subst c
      rw [ms_eq, ms_eq, if_neg (by omega), if_pos rfl]
      exact ⟨rfl, rfl⟩
    · rw [ms_en (show 9 * pl + i ≠ 9 * pl + l.length by omega), ms_en (show 9 * pl + i ≠ 9 * pl + l.length by omega), ms_ne (show 12 ≠ 11 by omega), if_pos (by omega)]
      exact h1 i (by omega)
  · rw [ms_ne k2, ms_ne k1]
    exact h2 k k1 k2
  · rw [ms_ap, if_neg (by omega), ms_ap, if_neg (by omega)]
    exact h3 k hk i hi
theorem vw_len {h : Int} : ∀ (l : List Nat), (l.flatMap (vw h)).length ≤ l.length := fun l => by
  have := fm_le (f := vw h) 1 l (fun w _ => by unfold vw; split <;> simp)
  omega
theorem w9_get {f hi : Nat} (h1 : 1 ≤ f) (h2 : f ≤ 4) (h3 : hi < 2) : W9.getD (2 * f - 1 + hi) 0 = f + 5 * hi := by
  rcases (show f = 1 ∨ f = 2 ∨ f = 3 ∨ f = 4 by omega) with rfl | rfl | rfl | rfl <;> rcases (show hi = 0 ∨ hi = 1 by omega) with rfl | rfl <;> rfl
theorem w9_off {f hi : Nat} (h1 : 1 ≤ f) (h2 : f ≤ 4) (h3 : hi < 2) : offW (f + 5 * hi) = (hi : Int) + (if f = 4 then 5 else 2 * (f : Int) - 2) := by
  rcases (show f = 1 ∨ f = 2 ∨ f = 3 ∨ f = 4 by omega) with rfl | rfl | rfl | rfl <;> rcases (show hi = 0 ∨ hi = 1 by omega) with rfl | rfl <;> rfl
theorem w9_len : W9.length = 9 := rfl
theorem toI (n : Nat) (h : n < 2 ^ 31) : (nI n).toInt = (n : Int) := nI_toInt h
set_option maxHeartbeats 2000000 in
/-- one step: a finger, low or high -/
theorem oneM {σ τ0 τ : Mm} {pl s f hi : Nat} {to : Int32} {h : Int} {l : List Nat} {G : Mm × Int32 → Prop} {P : Mm × Int32 × Int32 → Prop} (hpl : pl < 2) (hs : s < 4) (hf1 : 1 ≤ f) (hf2 : f ≤ 4) (hh : hi < 2) (eh : (to - σ 1 s).toInt = h) (b1 : -1000 ≤ h) (b2 : h ≤ 1000) (hO : OM τ0 τ pl h l) (hl : l.length < 9)
    (fin : ∀ τ2, OM τ0 τ2 pl h (l ++ vw h (f + 5 * hi)) → P (τ2, nI (l ++ vw h (f + 5 * hi)).length, nI (hi + 1))) : Sat (f_X6_findOnes_s53 (nI f) to σ (nI s) (nI pl) τ (nI l.length) (nI hi)) (Sum.elim P G) := by
  unfold f_X6_findOnes_s53
  refine S_f (nI_ge (a := hi) (b := 2) hh (by decide)) (S_bn1 ?_)
  rw [ix_nI (show s < 2 ^ 31 by omega)]
  have e5 : (if nI f = 4 then some (τ, (5 : Int32)) else some (τ, ((2 * nI f) - 2))) = some (τ, nI (if f = 4 then 5 else 2 * f - 2)) := by
    by_cases c : f = 4
    · subst c
      rw [if_pos (show nI 4 = 4 from rfl)]
      rfl
    · rw [if_neg (show ¬ nI f = 4 from fun q => c ((nI_eq (a := f) (b := 4) (by omega) (by decide)).mp q)), if_neg c, show (2 : Int32) * nI f = nI (2 * f) from pk_mul 2 f, show nI (2 * f) - 2 = nI (2 * f - 2) from pk_sub (b := 2) (by omega)]
  refine S_eq e5 (S_bn1 ?_)
  dsimp only
  have hst : (if f = 4 then 5 else 2 * f - 2) ≤ 6 := by split <;> omega
  have ho := w9_off hf1 hf2 hh
  have hst2 : ((if f = 4 then 5 else 2 * f - 2 : Nat) : Int) = (if f = 4 then 5 else 2 * (f : Int) - 2) := by split <;> omega
  have ez : (((to - σ 1 s) - nI hi) - nI (if f = 4 then 5 else 2 * f - 2)).toInt = h - offW (f + 5 * hi) := by
    have e1 := fb_subN eh (toI hi (by omega)) (by omega) (by omega)
    rw [fb_subN e1 (toI _ (by omega)) (by omega) (by omega)]
    omega
  have v1 : (1 : Int32).toInt = 1 := by decide
  have v12 : (12 : Int32).toInt = 12 := by decide
  have hw0 : f + 5 * hi ≠ 0 := by omega
  have hw5 : f + 5 * hi ≠ 5 := by omega
  have ehv : hv (f + 5 * hi) h = if 1 ≤ h - offW (f + 5 * hi) ∧ h - offW (f + 5 * hi) ≤ 12 then h - offW (f + 5 * hi) else -1 := by
    unfold hv
    rw [if_neg hw0, if_neg hw5]
  by_cases c : 1 ≤ h - offW (f + 5 * hi) ∧ h - offW (f + 5 * hi) ≤ 12
  · rw [if_pos c] at ehv
    refine S_eq (in_yes (by rw [fa_lt, ez, v1]; omega) (by rw [fa_le, ez, v12]; omega)) (S_f (show ¬ (1 : Int32) = 0 by decide) ?_)
    have ev : vw h (f + 5 * hi) = [f + 5 * hi] := by
      unfold vw
      rw [if_pos (by omega)]
    rw [ev] at fin
    dsimp only
    rw [show (9 : Int32) * nI pl = nI (9 * pl) from pk_mul 9 pl, nI_add, ix_nI (show 9 * pl + l.length < 2 ^ 31 by omega), show (5 : Int32) * nI hi = nI (5 * hi) from pk_mul 5 hi, nI_add, nI_1, nI_1, hand_nI (ez.trans ehv.symm) (by omega) (by omega)]
    refine S_chk (inb_nI (by omega) (by decide)) (S_nm (S_chk (inb_nI (by omega) (by decide)) (S_nm (S_inl ?_))))
    have := fin _ (OM_add (w := f + 5 * hi) hO hl)
    rw [List.length_append] at this
    exact this
  · rw [if_neg c] at ehv
    refine S_eq (in_no (by rw [fa_lt, fa_le, ez, v1, v12]; omega)) (S_t rfl (S_inl ?_))
    have ev : vw h (f + 5 * hi) = [] := by
      unfold vw
      rw [if_neg (by omega)]
    rw [ev, List.append_nil] at fin
    rw [nI_1]
    exact fin τ hO
set_option maxHeartbeats 2000000 in
theorem onesM {τ : Mm} {pl s : Nat} {to : Int32} {h : Int} (hpl : pl < 2) (hs : s < 4) (eh : (to - τ 1 s).toInt = h) (b1 : -1000 ≤ h) (b2 : h ≤ 1000) : Sat (f_X6_findOnes τ (nI pl) (nI s) to) (fun τ' => τ' 13 pl = nI (wl h).length ∧ (∀ j, j ≠ pl → τ' 13 j = τ 13 j) ∧ (∀ i, i < (wl h).length → τ' 12 (9 * pl + i) = nI ((wl h).getD i 0) ∧ τ' 11 (9 * pl + i) = nI (hv ((wl h).getD i 0) h).toNat) ∧ (∀ k, k < 11 ∨ 13 < k → τ' k = τ k) ∧ ∀ k, k = 11 ∨ k = 12 → ∀ i, (i < 9 * pl ∨ 9 * pl + 9 ≤ i) → τ' k i = τ k i) := by
  have hO0 : OM τ τ pl h [] := ⟨fun i hi => by simp at hi, fun _ _ _ => rfl, fun _ _ _ _ => rfl⟩
  unfold f_X6_findOnes
  refine S_chk (inb_nI hs (by decide)) (S_bn1 ?_)
  rw [ix_nI (show s < 2 ^ 31 by omega)]
  have v0 : (0 : Int32).toInt = 0 := by decide
  have first : Sat (if to - τ 1 s = 0 then chk (inb (9 * nI pl) 18) (nm (ms τ 11 (9 * nI pl).toNatClampNeg 0) (fun σ15 => chk (inb (9 * nI pl) 18) (nm (ms σ15 12 (9 * nI pl).toNatClampNeg 0) (fun σ16 => some (σ16, (1 : Int32)))))) else some (τ, 0)) (fun a => OM τ a.1 pl h (vw h 0) ∧ a.2 = nI (vw h 0).length) := by
    by_cases c : h = 0
    · have ev : hv 0 h = 0 := by
        unfold hv
        rw [if_pos rfl, if_pos c]
      have evw : vw h 0 = [0] := by
        unfold vw
        rw [if_pos (by omega)]
      refine S_t (Int32.toInt_inj.mp (by rw [eh, v0, c])) ?_
      rw [show (9 : Int32) * nI pl = nI (9 * pl) from pk_mul 9 pl, ix_nI (show 9 * pl < 2 ^ 31 by omega), evw]
      refine S_chk (inb_nI (by omega) (by decide)) (S_nm (S_chk (inb_nI (by omega) (by decide)) (S_nm (S_some ⟨?_, rfl⟩))))
      have := OM_add (w := 0) hO0 (by decide)
      rw [ev] at this
      exact this
    · have ev : hv 0 h = -1 := by
        unfold hv
        rw [if_pos rfl, if_neg c]
      have evw : vw h 0 = [] := by
        unfold vw
        rw [if_neg (by omega)]
      refine S_f (fun q => c (by rw [← eh, q]; exact v0)) (S_some ?_)
      rw [evw]
      exact ⟨hO0, rfl⟩
  refine S_mono first (fun a ha => ?_)
  obtain ⟨τ1, n1⟩ := a
  obtain ⟨ho1, e1⟩ := ha
  dsimp only at ho1 e1 ⊢
  subst e1
  refine S_bn1 ?_
  refine S_lq2 (fun τ' v f => ∃ f', f = nI f' ∧ 1 ≤ f' ∧ f' ≤ 5 ∧ v = nI ((W9.take (2 * f' - 1)).flatMap (vw h)).length ∧ OM τ τ' pl h ((W9.take (2 * f' - 1)).flatMap (vw h))) (fun _ _ f => 5 - f.toNatClampNeg) ?_ fu τ1 (nI (vw h 0).length) 1 (by unfold fu; omega) ⟨1, rfl, by omega, by omega, by simp [W9], by simpa [W9] using ho1⟩
  rintro τ' v f ⟨f', rfl, hf1, hf2, rfl, hO⟩
  unfold f_X6_findOnes_s44
  by_cases c5 : f' = 5
  · subst c5
    refine S_t (show (4 : Int32) < nI 5 by decide) (S_inr ?_)
    dsimp only
    refine S_chk (inb_nI hpl (by decide)) (S_nm (S_some ?_))
    rw [ix_nI (show pl < 2 ^ 31 by omega)]
    have eW : (W9.take (2 * 5 - 1)).flatMap (vw h) = wl h := rfl
    rw [eW] at hO ⊢
    obtain ⟨h1, h2, h3⟩ := hO
    refine ⟨ms_eq, fun j hj => ?_, fun i hi => ?_, fun k hk => ?_, fun k hk i hi => ?_⟩
    · rw [ms_en hj, h2 13 (by omega) (by omega)]
    · rw [ms_ne (by omega), ms_ne (by omega)]
      exact h1 i hi
    · rw [ms_ne (by omega)]
      exact h2 k (by omega) (by omega)
    · rw [ms_ne (by omega)]
      exact h3 k hk i hi
  · have hf4 : f' ≤ 4 := by omega
    refine S_f (nI_nlt (a := 4) (by omega) (by decide)) (S_bn1 ?_)
    refine S_lq2 (fun τ2 v2 hi => ∃ hi', hi = nI hi' ∧ hi' ≤ 2 ∧ v2 = nI ((W9.take (2 * f' - 1 + hi')).flatMap (vw h)).length ∧ OM τ τ2 pl h ((W9.take (2 * f' - 1 + hi')).flatMap (vw h))) (fun _ _ hi => 2 - hi.toNatClampNeg) ?_ fu τ' _ 0 (by unfold fu; omega) ⟨0, rfl, by omega, rfl, hO⟩
    rintro τ2 v2 hi ⟨hi', rfl, hh, rfl, hO2⟩
    by_cases c2 : hi' = 2
    · subst c2
      unfold f_X6_findOnes_s53
      refine S_t (show (2 : Int32) ≤ nI 2 by decide) (S_inr (S_inl ?_))
      dsimp only
      refine ⟨⟨f' + 1, nI_1 f', by omega, by omega, ?_, ?_⟩, ?_⟩
      · rw [show 2 * (f' + 1) - 1 = 2 * f' - 1 + 2 by omega]
      · rw [show 2 * (f' + 1) - 1 = 2 * f' - 1 + 2 by omega]
        exact hO2
      · rw [nI_1, ix_nI (show f' + 1 < 2 ^ 31 by omega), ix_nI (show f' < 2 ^ 31 by omega)]
        omega
    · have hh2 : hi' < 2 := by omega
      have hl9 : ((W9.take (2 * f' - 1 + hi')).flatMap (vw h)).length < 9 := by
        have h8 := vw_len (h := h) (W9.take (2 * f' - 1 + hi'))
        rw [List.length_take] at h8
        omega
      refine oneM (s := s) hpl hs hf1 hf4 hh2 eh b1 b2 hO2 hl9 (fun τ3 h3 => ?_)
      have ek : (W9.take (2 * f' - 1 + hi')).flatMap (vw h) ++ vw h (f' + 5 * hi') = (W9.take (2 * f' - 1 + (hi' + 1))).flatMap (vw h) := by
        rw [← Nat.add_assoc, fm_take (by rw [w9_len]; omega), w9_get hf1 hf4 hh2]
      rw [ek] at h3 ⊢
      refine ⟨⟨hi' + 1, rfl, by omega, rfl, h3⟩, ?_⟩
      dsimp only
      rw [ix_nI (show hi' + 1 < 2 ^ 31 by omega), ix_nI (show hi' < 2 ^ 31 by omega)]
      omega
