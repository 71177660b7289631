/-! ===== the reference's holds: all of a note ===== -/
theorem AccM_same {τ0 τ τ' : Mm} {n : Nat} {dbl : Bool} {S : List Nat} (h : AccM τ0 n dbl S τ) (hr : ∀ k, k < 11 ∨ 13 < k → τ' k = τ k) : AccM τ0 n dbl S τ' := by
  obtain ⟨l, h1, h2, ⟨h3, h4⟩, h5, h6, h7⟩ := h
  refine ⟨l, h1, h2, ⟨by rw [hr 7 (by omega)]; exact h3, fun i hi => ?_⟩, fun k hk => ?_, fun j hj => ?_, fun k k1 k2 i hi => ?_⟩
  · rw [hr 8 (by omega), hr 9 (by omega), hr 10 (by omega)]
    exact h4 i hi
  · rw [hr k (by omega)]
    exact h5 k hk
  · rw [hr 7 (by omega)]
    exact h6 j hj
  · rw [hr k (by omega)]
    exact h7 k k1 k2 i hi
theorem AccM_cast {τ0 τ : Mm} {n : Nat} {dbl : Bool} {S T : List Nat} (h : AccM τ0 n dbl S τ) (e : S = T) : AccM τ0 n dbl T τ := e ▸ h
theorem fm_vw {h : Int} {F : Nat → List Nat} : ∀ (W : List Nat), (W.flatMap (vw h)).flatMap F = W.flatMap (fun w => if 0 ≤ hv w h then F w else [])
  | [] => rfl
  | w :: W => by
    rw [List.flatMap_cons, List.flatMap_append, fm_vw W, List.flatMap_cons]
    congr 1
    unfold vw
    split
    · rw [List.flatMap_cons, List.flatMap_nil, List.append_nil]
    · rfl
theorem wl_mem {h : Int} {i : Nat} (hi : i < (wl h).length) : 0 ≤ hv ((wl h).getD i 0) h ∧ (wl h).getD i 0 < 10 ∧ (wl h).getD i 0 ≠ 5 := by
  have hm : (wl h).getD i 0 ∈ wl h := by
    simp only [List.getD_eq_getElem?_getD, List.getElem?_eq_getElem hi, Option.getD_some]
    exact List.getElem_mem hi
  obtain ⟨w, hw, h2⟩ := List.mem_flatMap.mp hm
  unfold vw at h2
  split at h2
  · rw [List.mem_singleton] at h2
    rw [h2]
    have hb : ∀ w ∈ W9, w < 10 ∧ w ≠ 5 := by decide
    exact ⟨by assumption, hb w hw⟩
  · simp at h2
theorem wl_len {h : Int} : (wl h).length ≤ 9 := vw_len W9
theorem highs_eq {σ : Mm} {w : Nat} (hw : w < 10) : f_X6_highs σ (nI w) = some (σ, nI (w / 5)) := by
  unfold f_X6_highs
  by_cases c : w ≤ 4
  · rw [if_pos (show nI w ≤ 4 from nI_le (b := 4) c (by decide)), show w / 5 = 0 by omega]
    rfl
  · rw [if_neg (show ¬ nI w ≤ 4 from nI_ge (a := 4) (b := w) (by omega) (by omega)), show w / 5 = 1 by omega]
    rfl
def F2 (s : Nat) (h1 h2 : Int) (w g : Nat) : List Nat := if tog w (hv w h1) g (hv g h2) = true then [mkK s (if hv w h1 < hv g h2 then hv g h2 else hv w h1) w g] else []
theorem prs_wl (s : Nat) (h1 h2 : Int) : (wl h1).flatMap (fun w => (wl h2).flatMap (F2 s h1 h2 w)) = prs W9 s h1 h2 := by
  unfold wl prs
  rw [fm_vw]
  congr 1
  funext w
  rw [fm_vw]
  rfl
theorem sgs_wl (O : Nat → Nat) (P s : Nat) : (wl ((P : Int) - O s)).flatMap (fun w => [mkK s (hv w ((P : Int) - O s)) w 0]) = sgs W9 O P s := by
  unfold wl sgs
  rw [fm_vw]
  rfl
theorem fit_sub {A B : List Nat} {F : Nat → List Nat} {i : Nat} (h : i < B.length) (hF : Fit (A ++ B.flatMap F)) : Fit (A ++ (B.take i).flatMap F ++ F (B.getD i 0)) := by
  have e : B.flatMap F = (B.take (i + 1)).flatMap F ++ (B.drop (i + 1)).flatMap F := by
    rw [← List.flatMap_append, List.take_append_drop]
  rw [e, fm_take h, ← List.append_assoc, ← List.append_assoc] at hF
  exact hF.left
theorem Sin_t (S : List Nat) : Sin true S := fun e => by cases e
set_option maxHeartbeats 4000000 in
theorem tail2M {τ0 τ : Mm} {n s i j w g : Nat} {S : List Nat} {h1 h2 : Int} {G : Mm → Prop} {P : Mm × Int32 → Prop} (hn : n < 12) (hs : s < 3) (hi : i < 9) (hj : j < 9) (hw : w < 10) (hg : g < 10) (hx : 0 ≤ hv w h1) (hy : 0 ≤ hv g h2) (ht : tog w (hv w h1) g (hv g h2) = true)
    (e1 : τ 12 i = nI w) (e2 : τ 11 i = nI (hv w h1).toNat) (e3 : τ 12 (9 + j) = nI g) (e4 : τ 11 (9 + j) = nI (hv g h2).toNat) (hA : AccM τ0 n true S τ) (hF : Fit (S ++ F2 s h1 h2 w g))
    (fin : ∀ τ', AccM τ0 n true (S ++ F2 s h1 h2 w g) τ' → τ' 11 = τ 11 → τ' 12 = τ 12 → τ' 13 = τ 13 → P (τ', nI (9 + j) + 1)) : Sat (f_X6_findDouble_t151 (nI i) (nI n) (nI s) τ (nI (9 + j))) (Sum.elim P G) := by
  have bx := hv_le (w := w) (h := h1)
  have by_ := hv_le (w := g) (h := h2)
  have eF : F2 s h1 h2 w g = [mkK s (if hv w h1 < hv g h2 then hv g h2 else hv w h1) w g] := by
    unfold F2
    rw [if_pos ht]
  have hand : (if hv w h1 ≤ 0 then hv g h2 else hv w h1) = (if hv w h1 < hv g h2 then hv g h2 else hv w h1) ∧ (g = 0 → hv g h2 = 0) ∧ (g ≠ 0 → (if hv w h1 < hv g h2 then hv g h2 else hv w h1) = hv g h2) := by
    have k0 : ∀ (w : Nat) (h : Int), w = 0 → 0 ≤ hv w h → hv w h = 0 := fun w h e q => by
      subst e
      exact (hv_zero q).2
    have k1 : ∀ (w : Nat) (h : Int), w ≠ 0 → 0 ≤ hv w h → 1 ≤ hv w h := fun w h e q => (hv_neg e q).2.1
    unfold tog at ht
    simp only [Bool.or_eq_true, Bool.and_eq_true, decide_eq_true_eq] at ht
    by_cases c1 : w = 0
    · have := k0 w h1 c1 hx
      refine ⟨by split <;> split <;> omega, fun e => k0 g h2 e hy, fun e => ?_⟩
      have := k1 g h2 e hy
      split <;> omega
    · have a1 := k1 w h1 c1 hx
      by_cases c2 : g = 0
      · have := k0 g h2 c2 hy
        refine ⟨by split <;> split <;> omega, fun _ => this, fun e => absurd c2 e⟩
      · have a2 := k1 g h2 c2 hy
        have : hv w h1 = hv g h2 := by
          rcases ht with (ht | ht) | ht
          · exact absurd ht c1
          · exact absurd ht c2
          · exact ht.1
        refine ⟨by split <;> split <;> omega, fun e => absurd e c2, fun _ => by split <;> omega⟩
  rw [eF] at hF fin
  unfold f_X6_findDouble_t151
  rw [ix_nI (show i < 2 ^ 31 by omega), ix_nI (show 9 + j < 2 ^ 31 by omega)]
  have bi : inb (nI i) 18 = true := inb_nI (by omega) (by decide)
  have bj : inb (nI (9 + j)) 18 = true := inb_nI (by omega) (by decide)
  refine S_chk bi (S_bn1 ?_)
  have ea : (if τ 11 i ≤ 0 then chk (inb (nI (9 + j)) 18) (some (τ, τ 11 (9 + j))) else chk (inb (nI i) 18) (some (τ, τ 11 i))) = some (τ, nI (if hv w h1 < hv g h2 then hv g h2 else hv w h1).toNat) := by
    rw [← hand.1, e2, e4]
    by_cases c : hv w h1 ≤ 0
    · rw [if_pos (show nI (hv w h1).toNat ≤ 0 from nI_le (b := 0) (by omega) (by decide)), chk_t bj, if_pos c]
    · rw [if_neg (nI_nle (by omega) (by omega)), chk_t bi, if_neg c]
  refine S_eq ea ?_
  dsimp only
  generalize hH : (if hv w h1 < hv g h2 then hv g h2 else hv w h1) = Hd at hF fin hand ⊢
  have bH : 0 ≤ Hd ∧ Hd ≤ 12 := by
    rw [← hH]
    split <;> omega
  refine S_chk bi (S_chk bj (S_chk bj (S_chk bi (S_bn1 ?_))))
  rw [e1]
  refine S_eq (highs_eq hw) (S_chk bj (S_bn1 ?_))
  dsimp only
  rw [e3]
  refine S_eq (highs_eq hg) (S_bn0 ?_)
  dsimp only
  rw [e4]
  have n1 : ((1000 * nI s) + (10 * nI Hd.toNat)) + nI w = nI (mkK s Hd w g / 10) := by
    rw [show (1000 : Int32) * nI s = nI (1000 * s) from pk_mul 1000 s, show (10 : Int32) * nI Hd.toNat = nI (10 * Hd.toNat) from pk_mul 10 _, nI_add, nI_add]
    congr 1
    unfold mkK
    omega
  have n2 : ((1000 * (nI s + 1)) + (10 * nI (hv g h2).toNat)) + nI g = gK true (mkK s Hd w g) := by
    rw [nI_1, show (1000 : Int32) * nI (s + 1) = nI (1000 * (s + 1)) from pk_mul 1000 _, show (10 : Int32) * nI (hv g h2).toNat = nI (10 * (hv g h2).toNat) from pk_mul 10 _, nI_add, nI_add]
    unfold gK
    rw [if_pos rfl]
    congr 1
    unfold GN mkK
    have q1 : ((1000 * s + 10 * Hd.toNat + w) * 10 + g) / 10000 = s := by omega
    have q2 : ((1000 * s + 10 * Hd.toNat + w) * 10 + g) % 10 = g := by omega
    have q3 : ((1000 * s + 10 * Hd.toNat + w) * 10 + g) / 100 % 100 = Hd.toNat := by omega
    rw [q1, q2, q3]
    by_cases c : g = 0
    · have := hand.2.1 c
      rw [if_pos c]
      omega
    · have := hand.2.2 c
      rw [if_neg c]
      omega
  have n3 : nI (w / 5) + nI (g / 5) = nI (extK (mkK s Hd w g)) := by
    rw [nI_add]
    congr 1
    unfold extK mkK
    have q2 : ((1000 * s + 10 * Hd.toNat + w) * 10 + g) % 10 = g := by omega
    have q3 : ((1000 * s + 10 * Hd.toNat + w) * 10 + g) / 10 % 10 = w := by omega
    rw [q2, q3]
  rw [n1, n2, n3]
  refine S_mono (keepM hn hA hF (Sin_t _)) (fun τ' h' => S_inl ?_)
  exact fin τ' h'.1 h'.2.1 h'.2.2.1 h'.2.2.2
set_option maxHeartbeats 4000000 in
theorem pairM {τ0 τ : Mm} {n s i j w g : Nat} {S : List Nat} {h1 h2 : Int} {G : Mm → Prop} {P : Mm × Int32 → Prop} (hn : n < 12) (hs : s < 3) (hi : i < 9) (hj : j < (wl h2).length) (hw : w < 10) (hx : 0 ≤ hv w h1) (eg : (wl h2).getD j 0 = g)
    (e1 : τ 12 i = nI w) (e2 : τ 11 i = nI (hv w h1).toNat) (e3 : τ 12 (9 + j) = nI g) (e4 : τ 11 (9 + j) = nI (hv g h2).toNat) (e5 : τ 13 1 = nI (wl h2).length) (hA : AccM τ0 n true S τ) (hF : Fit (S ++ F2 s h1 h2 w g))
    (fin : ∀ τ', AccM τ0 n true (S ++ F2 s h1 h2 w g) τ' → τ' 11 = τ 11 → τ' 12 = τ 12 → τ' 13 = τ 13 → P (τ', nI (9 + j) + 1)) : Sat (f_X6_findDouble_s35 (nI i) (nI n) (nI s) τ (nI (9 + j))) (Sum.elim P G) := by
  have hl := wl_len (h := h2)
  obtain ⟨hy, hg, -⟩ := wl_mem hj
  rw [eg] at hy hg
  have bx := hv_le (w := w) (h := h1)
  have by_ := hv_le (w := g) (h := h2)
  have bi : inb (nI i) 18 = true := inb_nI (by omega) (by decide)
  have bj : inb (nI (9 + j)) 18 = true := inb_nI (by omega) (by decide)
  have tail : tog w (hv w h1) g (hv g h2) = true → Sat (f_X6_findDouble_t151 (nI i) (nI n) (nI s) τ (nI (9 + j))) (Sum.elim P G) := fun ht => tail2M hn hs hi (by omega) hw hg hx hy ht e1 e2 e3 e4 hA hF fin
  have skip : ¬ tog w (hv w h1) g (hv g h2) = true → Sat (some (Sum.inl (τ, nI (9 + j) + 1))) (Sum.elim P G) := fun ht => by
    refine S_inl (fin τ ?_ rfl rfl rfl)
    unfold F2
    rw [if_neg ht, List.append_nil]
    exact hA
  have et : tog w (hv w h1) g (hv g h2) = true ↔ (w = 0 ∨ g = 0) ∨ (hv w h1 = hv g h2 ∧ (w = g ∨ ¬ w % 5 = g % 5)) := by
    unfold tog
    simp only [Bool.or_eq_true, Bool.and_eq_true, decide_eq_true_eq, Bool.not_eq_true', decide_eq_false_iff_not]
  unfold f_X6_findDouble_s35
  refine S_chk (by decide) ?_
  rw [ix_nI (show i < 2 ^ 31 by omega), ix_nI (show 9 + j < 2 ^ 31 by omega)]
  rw [show (1 : Int32).toNatClampNeg = 1 by decide, e5, show (9 : Int32) + nI (wl h2).length = nI (9 + (wl h2).length) from nI_add 9 _]
  refine S_f (nI_ge (by omega) (by omega)) (S_chk bi (S_bn1 ?_))
  have ea : (if τ 12 i ≤ 0 then some (τ, (0 : Int32)) else chk (inb (nI (9 + j)) 18) (if τ 12 (9 + j) ≤ 0 then some (τ, 0) else some (τ, 1))) = some (τ, if w = 0 ∨ g = 0 then 0 else 1) := by
    rw [e1, e3]
    by_cases c1 : w = 0
    · rw [if_pos (show nI w ≤ 0 from nI_le (b := 0) (by omega) (by decide)), if_pos (Or.inl c1)]
    · rw [if_neg (nI_nle (by omega) (by omega)), chk_t bj]
      by_cases c2 : g = 0
      · rw [if_pos (show nI g ≤ 0 from nI_le (b := 0) (by omega) (by decide)), if_pos (Or.inr c2)]
      · rw [if_neg (nI_nle (by omega) (by omega)), if_neg (by omega)]
  refine S_eq ea ?_
  dsimp only
  refine S_chk bi (S_chk bj (S_bn1 ?_))
  have eb : (if τ 12 i - τ 12 i / 5 * 5 = τ 12 (9 + j) - τ 12 (9 + j) / 5 * 5 then some (τ, (1 : Int32)) else some (τ, 0)) = some (τ, if w % 5 = g % 5 then 1 else 0) := by
    rw [e1, e3, show nI w - nI w / 5 * 5 = nI (w % 5) from pk_rem (d := 5) (by omega) (by decide) (by decide), show nI g - nI g / 5 * 5 = nI (g % 5) from pk_rem (d := 5) (by omega) (by decide) (by decide)]
    by_cases c : w % 5 = g % 5
    · rw [if_pos (by rw [c]), if_pos c]
    · rw [if_neg (fun q => c ((nI_eq (by omega) (by omega)).mp q)), if_neg c]
  refine S_eq eb ?_
  dsimp only
  by_cases c1 : w = 0 ∨ g = 0
  · rw [if_pos c1]
    exact S_t rfl (tail (et.mpr (Or.inl c1)))
  · rw [if_neg c1]
    refine S_f (by decide) (S_chk bi (S_chk bj ?_))
    by_cases c2 : hv w h1 = hv g h2
    · refine S_t (by rw [e2, e4, c2]) ?_
      by_cases c3 : w % 5 = g % 5
      · rw [if_pos c3]
        refine S_f (by decide) (S_chk bi (S_chk bj ?_))
        by_cases c4 : w = g
        · exact S_t (by rw [e1, e3, c4]) (tail (et.mpr (Or.inr ⟨c2, Or.inl c4⟩)))
        · refine S_f (fun q => c4 ((nI_eq (by omega) (by omega)).mp (e1.symm.trans (q.trans e3)))) (skip (fun q => ?_))
          rcases et.mp q with q | q
          · exact c1 q
          · rcases q.2 with q | q
            · exact c4 q
            · exact q c3
      · rw [if_neg c3]
        exact S_t rfl (tail (et.mpr (Or.inr ⟨c2, Or.inr c3⟩)))
    · refine S_f (fun q => c2 (by have := (nI_eq (by omega) (by omega)).mp (e2.symm.trans (q.trans e4)); omega)) (skip (fun q => ?_))
      rcases et.mp q with q | q
      · exact c1 q
      · exact c2 q.1
/-- the holds so far, and the rows of single pitches as they were -/
def AccMx (τ0 : Mm) (n : Nat) (S : List Nat) (τ2 τ : Mm) : Prop := AccM τ0 n true S τ ∧ τ 11 = τ2 11 ∧ τ 12 = τ2 12 ∧ τ 13 = τ2 13
set_option maxHeartbeats 4000000 in
theorem dblM {τ0 τ : Mm} {n s A B : Nat} {O : Nat → Nat} {S : List Nat} (hn : n < 12) (hs : s < 3) (hA1 : A ≤ 80) (hB1 : B ≤ 80) (hO : ∀ s, s < 4 → τ 1 s = nI (O s) ∧ O s ≤ 60) (hA : AccM τ0 n true S τ) (hF : Fit (S ++ prs W9 s ((A : Int) - O s) ((B : Int) - O (s + 1)))) : Sat (f_X6_findDouble τ (nI n) (nI s) (nI A) (nI B)) (AccM τ0 n true (S ++ prs W9 s ((A : Int) - O s) ((B : Int) - O (s + 1)))) := by
  have hO1 := hO s (by omega)
  have hO2 := hO (s + 1) (by omega)
  have b1 := hO1.2
  have b2 := hO2.2
  unfold f_X6_findDouble
  refine S_bn0 (S_mono (onesM (pl := 0) (s := s) (h := (A : Int) - O s) (by decide) (by omega) (by rw [hO1.1]; exact ht_eq hA1 hO1.2) (by omega) (by omega)) (fun τ1 q1 => S_bn0 ?_))
  obtain ⟨a1, a2, a3, a4, a5⟩ := q1
  rw [nI_1]
  refine S_mono (onesM (τ := τ1) (pl := 1) (s := s + 1) (h := (B : Int) - O (s + 1)) (by decide) (by omega) (by rw [a4 1 (by omega), hO2.1]; exact ht_eq hB1 hO2.2) (by omega) (by omega)) (fun τ2 q2 => S_bn0 ?_)
  obtain ⟨c1, c2, c3, c4, c5⟩ := q2
  generalize hh1 : (A : Int) - O s = h1 at *
  generalize hh2 : (B : Int) - O (s + 1) = h2 at *
  rw [← prs_wl] at hF ⊢
  have hA2 : AccM τ0 n true S τ2 := AccM_same hA (fun k hk => by rw [c4 k hk, a4 k hk])
  have l1 := wl_len (h := h1)
  have l2 := wl_len (h := h2)
  have f13 : τ2 13 0 = nI (wl h1).length := by rw [c2 0 (by omega)]; exact a1
  have f0 : ∀ i, i < (wl h1).length → τ2 12 i = nI ((wl h1).getD i 0) ∧ τ2 11 i = nI (hv ((wl h1).getD i 0) h1).toNat := fun i hi => by
    have := a3 i hi
    rw [Nat.mul_zero, Nat.zero_add] at this
    rw [c5 12 (Or.inr rfl) i (by omega), c5 11 (Or.inl rfl) i (by omega)]
    exact this
  generalize hFF : (fun w => (wl h2).flatMap (F2 s h1 h2 w)) = FF at hF ⊢
  refine S_lq1 (fun τ' v => ∃ i, v = nI i ∧ i ≤ (wl h1).length ∧ AccM τ0 n true (S ++ ((wl h1).take i).flatMap FF) τ' ∧ τ' 11 = τ2 11 ∧ τ' 12 = τ2 12 ∧ τ' 13 = τ2 13) (fun _ v => 9 - v.toNatClampNeg) ?_ fu τ2 0 (by unfold fu; omega) ⟨0, rfl, by omega, AccM_cast hA2 (by simp), rfl, rfl, rfl⟩
  rintro τ' v ⟨i, rfl, hi, hA', r11, r12, r13⟩
  unfold f_X6_findDouble_s20
  refine S_chk (by decide) ?_
  rw [show (0 : Int32).toNatClampNeg = 0 by decide, r13, f13]
  by_cases c : i = (wl h1).length
  · refine S_t (nI_le (by omega) (by omega)) (S_inr (S_some ?_))
    rw [c, List.take_length] at hA'
    exact hA'
  · have hi' : i < (wl h1).length := by omega
    refine S_f (nI_ge hi' (by omega)) (S_bn0 ?_)
    obtain ⟨m1, m2, m3⟩ := wl_mem hi'
    have hFi := fit_sub hi' hF
    have eFi : FF ((wl h1).getD i 0) = (wl h2).flatMap (F2 s h1 h2 ((wl h1).getD i 0)) := by rw [← hFF]
    rw [eFi] at hFi
    generalize hS1 : S ++ ((wl h1).take i).flatMap FF = S1 at hA' hFi
    refine S_mono (P := AccMx τ0 n (S1 ++ (wl h2).flatMap (F2 s h1 h2 ((wl h1).getD i 0))) τ2) ?_ (fun τ3 h3 => S_inl ?_)
    · refine S_lq1 (fun τ3 v => ∃ j, v = nI (9 + j) ∧ j ≤ (wl h2).length ∧ AccM τ0 n true (S1 ++ ((wl h2).take j).flatMap (F2 s h1 h2 ((wl h1).getD i 0))) τ3 ∧ τ3 11 = τ2 11 ∧ τ3 12 = τ2 12 ∧ τ3 13 = τ2 13) (fun _ v => 18 - v.toNatClampNeg) ?_ fu τ' 9 (by unfold fu; omega) ⟨0, rfl, by omega, AccM_cast hA' (by simp), r11, r12, r13⟩
      rintro τ3 v ⟨j, rfl, hj, hA3, s11, s12, s13⟩
      by_cases cj : j = (wl h2).length
      · unfold f_X6_findDouble_s35
        refine S_chk (by decide) ?_
        rw [show (1 : Int32).toNatClampNeg = 1 by decide, s13, c1, show (9 : Int32) + nI (wl h2).length = nI (9 + (wl h2).length) from nI_add 9 _]
        refine S_t (nI_le (by omega) (by omega)) (S_inr ?_)
        rw [cj, List.take_length] at hA3
        exact ⟨hA3, s11, s12, s13⟩
      · have hj' : j < (wl h2).length := by omega
        refine pairM (w := (wl h1).getD i 0) (h1 := h1) (h2 := h2) hn hs (by omega) hj' m2 m1 rfl (by rw [s12]; exact (f0 i hi').1) (by rw [s11]; exact (f0 i hi').2) (by rw [s12]; exact (c3 j hj').1) (by rw [s11]; exact (c3 j hj').2) (by rw [s13]; exact c1) hA3 (fit_sub hj' hFi) (fun τ4 h4 t11 t12 t13 => ?_)
        refine ⟨⟨j + 1, by rw [nI_1, Nat.add_assoc], by omega, ?_, t11.trans s11, t12.trans s12, t13.trans s13⟩, ?_⟩
        · rw [fm_take hj', ← List.append_assoc]
          exact h4
        · dsimp only
          rw [nI_1, ix_nI (show 9 + j + 1 < 2 ^ 31 by omega), ix_nI (show 9 + j < 2 ^ 31 by omega)]
          omega
    · obtain ⟨h3, s11, s12, s13⟩ := h3
      refine ⟨⟨i + 1, nI_1 i, by omega, ?_, s11, s12, s13⟩, ?_⟩
      · rw [fm_take hi', ← List.append_assoc, hS1, eFi]
        exact h3
      · dsimp only
        rw [nI_1, ix_nI (show i + 1 < 2 ^ 31 by omega), ix_nI (show i < 2 ^ 31 by omega)]
        omega
