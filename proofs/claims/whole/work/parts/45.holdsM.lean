/-! ===== the reference's holds: keep ===== -/
def GN (k : Nat) : Nat := 1000 * (k / 10000 + 1) + (if k % 10 = 0 then 0 else 10 * (k / 100 % 100)) + k % 10
def gK (dbl : Bool) (k : Nat) : Int32 := if dbl = true then nI (GN k) else -1
def extK (k : Nat) : Nat := k / 10 % 10 / 5 + k % 10 / 5
def SegM (τ : Mm) (n : Nat) (dbl : Bool) (l : List Nat) : Prop := τ 7 n = nI l.length ∧ ∀ i, i < l.length → τ 8 (500 * n + i) = nI (l.getD i 0 / 10) ∧ τ 9 (500 * n + i) = gK dbl (l.getD i 0) ∧ τ 10 (500 * n + i) = nI (extK (l.getD i 0))
def FrM (τ0 τ : Mm) (n : Nat) : Prop := (∀ k, k < 7 ∨ 13 < k → τ k = τ0 k) ∧ (∀ j, j ≠ n → τ 7 j = τ0 7 j) ∧ ∀ k, 8 ≤ k → k ≤ 10 → ∀ i, (i < 500 * n ∨ 500 * n + 500 ≤ i) → τ k i = τ0 k i
def AccM (τ0 : Mm) (n : Nat) (dbl : Bool) (S : List Nat) (τ : Mm) : Prop := ∃ l, Srt l ∧ l.Perm S ∧ SegM τ n dbl l ∧ FrM τ0 τ n
theorem GN_lt {k : Nat} (h : k < 100000) : GN k < 100000 := by
  unfold GN
  split <;> omega
theorem gK_le {dbl : Bool} {a x : Nat} (ha : a < 100000) (hx : x < 100000) (e : a / 10 = x / 10) (h0 : dbl = false → a % 10 = 0 ∧ x % 10 = 0) : gK dbl a ≤ gK dbl x ↔ a ≤ x := by
  cases dbl with
  | false =>
    have := h0 rfl
    constructor
    · intro _
      omega
    · intro _
      show (-1 : Int32) ≤ -1
      decide
  | true =>
    unfold gK
    rw [if_pos rfl, if_pos rfl, nI_leI (by have := GN_lt ha; omega) (by have := GN_lt hx; omega)]
    unfold GN
    have e1 : a / 10000 = x / 10000 := by omega
    have e2 : a / 100 = x / 100 := by omega
    rw [e1, e2]
    split <;> split <;> omega
def Sin (dbl : Bool) (S : List Nat) : Prop := dbl = false → ∀ y ∈ S, y % 10 = 0
set_option maxHeartbeats 2000000 in
theorem keepM {τ0 τ : Mm} {n x : Nat} {dbl : Bool} {S : List Nat} (hn : n < 12) (hA : AccM τ0 n dbl S τ) (hF : Fit (S ++ [x])) (hs : Sin dbl (S ++ [x])) : Sat (f_X6_keep τ (nI n) (nI (x / 10)) (gK dbl x) (nI (extK x))) (fun τ' => AccM τ0 n dbl (S ++ [x]) τ' ∧ τ' 11 = τ 11 ∧ τ' 12 = τ 12 ∧ τ' 13 = τ 13) := by
  obtain ⟨l, h1, h2, ⟨h3, h4⟩, h5, h6, h7⟩ := hA
  have hl : l.length < 60 := by
    have := hF.1
    rw [h2.length_eq]
    rw [List.length_append] at this
    simp at this
    omega
  have hx : x < 100000 := hF.2 x (List.mem_append_right _ List.mem_cons_self)
  have hlm : ∀ i, i < l.length → l.getD i 0 ∈ S := fun i hi => by
    simp only [List.getD_eq_getElem?_getD, List.getElem?_eq_getElem hi, Option.getD_some]
    exact h2.subset (List.getElem_mem hi)
  have hlb : ∀ i, i < l.length → l.getD i 0 < 100000 := fun i hi => hF.2 _ (List.mem_append_left _ (hlm i hi))
  have hls : dbl = false → ∀ i, i < l.length → l.getD i 0 % 10 = 0 ∧ x % 10 = 0 := fun e i hi => ⟨hs e _ (List.mem_append_left _ (hlm i hi)), hs e x (List.mem_append_right _ List.mem_cons_self)⟩
  unfold f_X6_keep
  refine S_chk (inb_nI hn (by decide)) (S_bn1 ?_)
  rw [ix_nI (show n < 2 ^ 31 by omega), h3, show (500 : Int32) * nI n = nI (500 * n) from pk_mul 500 n, nI_add]
  refine S_lq1 (fun τ' v => ∃ j, v = nI (500 * n + j) ∧ j ≤ l.length ∧ (∀ i, i < j → τ' 8 (500 * n + i) = nI (l.getD i 0 / 10) ∧ τ' 9 (500 * n + i) = gK dbl (l.getD i 0) ∧ τ' 10 (500 * n + i) = nI (extK (l.getD i 0))) ∧ (∀ i, j < i → i ≤ l.length → τ' 8 (500 * n + i) = nI (l.getD (i - 1) 0 / 10) ∧ τ' 9 (500 * n + i) = gK dbl (l.getD (i - 1) 0) ∧ τ' 10 (500 * n + i) = nI (extK (l.getD (i - 1) 0))) ∧ (∀ i, j ≤ i → i < l.length → x < l.getD i 0) ∧ (∀ k, k < 8 ∨ 10 < k → τ' k = τ k) ∧ ∀ k, 8 ≤ k → k ≤ 10 → ∀ i, (i < 500 * n ∨ 500 * n + 500 ≤ i) → τ' k i = τ k i) (fun _ v => v.toNatClampNeg) ?_ fu τ (nI (500 * n + l.length)) (by rw [ix_nI (by omega)]; unfold fu; omega) ⟨l.length, rfl, Nat.le_refl _, fun i hi => h4 i hi, fun i a b => by omega, fun i a b => by omega, fun k _ => rfl, fun k _ _ i _ => rfl⟩
  rintro τ' v ⟨j, rfl, g1, g2, g3, g4, g5, g6⟩
  have hjb : 500 * n + j < 6000 := by omega
  have fin : (j = 0 ∨ l.getD (j - 1) 0 ≤ x) → Sat (chk (inb (nI (500 * n + j)) 6000) (nm (ms τ' 8 (nI (500 * n + j)).toNatClampNeg (nI (x / 10))) (fun σ4 => chk (inb (nI (500 * n + j)) 6000) (nm (ms σ4 9 (nI (500 * n + j)).toNatClampNeg (gK dbl x)) (fun σ5 => chk (inb (nI (500 * n + j)) 6000) (nm (ms σ5 10 (nI (500 * n + j)).toNatClampNeg (nI (extK x))) (fun σ6 => chk (inb (nI n) 12) (chk (inb (nI n) 12) (nm (ms σ6 7 n ((σ6 7 n) + 1)) (fun σ8 => some σ8)))))))))) (fun τ' => AccM τ0 n dbl (S ++ [x]) τ' ∧ τ' 11 = τ 11 ∧ τ' 12 = τ 12 ∧ τ' 13 = τ 13) := by
    intro hj
    refine S_chk (inb_nI hjb (by decide)) (S_nm (S_chk (inb_nI hjb (by decide)) (S_nm (S_chk (inb_nI hjb (by decide)) (S_nm (S_chk (inb_nI hn (by decide)) (S_chk (inb_nI hn (by decide)) (S_nm (S_some ?_)))))))))
    rw [ix_nI (show 500 * n + j < 2 ^ 31 by omega)]
    refine ⟨⟨putL l j x, putL_srt h1 g1 hj (fun i a b => Nat.le_of_lt (g4 i a b)), ?_, ⟨?_, ?_⟩, ?_, ?_, ?_⟩, ?_, ?_, ?_⟩
    · refine (putL_perm l j x).trans ((List.Perm.cons x h2).trans ?_)
      exact (List.perm_append_comm (l₁ := [x]) (l₂ := S))
    · rw [ms_eq, ms_ne (by omega), ms_ne (by omega), ms_ne (by omega), g5 7 (by omega), h3, putL_len]
      exact nI_1 _
    · intro i hi
      rw [putL_len] at hi
      rw [putL_get g1]
      rw [ms_ne (show 8 ≠ 7 by omega), ms_ne (show 8 ≠ 10 by omega), ms_ne (show 8 ≠ 9 by omega), ms_ne (show 9 ≠ 7 by omega), ms_ne (show 9 ≠ 10 by omega), ms_ne (show 10 ≠ 7 by omega)]
      by_cases c1 : i = j
      · subst c1
        rw [ms_eq, ms_eq, ms_eq, if_neg (by omega), if_pos rfl]
        exact ⟨rfl, rfl, rfl⟩
      · rw [ms_en (show 500 * n + i ≠ 500 * n + j by omega), ms_en (show 500 * n + i ≠ 500 * n + j by omega), ms_en (show 500 * n + i ≠ 500 * n + j by omega), ms_ne (show 9 ≠ 8 by omega), ms_ne (show 10 ≠ 9 by omega), ms_ne (show 10 ≠ 8 by omega)]
        by_cases c2 : i < j
        · rw [if_pos c2]
          exact g2 i c2
        · rw [if_neg c2, if_neg c1]
          exact g3 i (by omega) (by omega)
    · intro k hk
      rw [ms_ne (by omega), ms_ne (by omega), ms_ne (by omega), ms_ne (by omega), g5 k (by omega)]
      exact h5 k hk
    · intro i hi
      rw [ms_en hi, ms_ne (by omega), ms_ne (by omega), ms_ne (by omega), g5 7 (by omega)]
      exact h6 i hi
    · intro k k1 k2 i hi
      rw [ms_ne (by omega), ms_ap, if_neg (by omega), ms_ap, if_neg (by omega), ms_ap, if_neg (by omega), g6 k k1 k2 i hi]
      exact h7 k k1 k2 i hi
    · rw [ms_ne (by omega), ms_ne (by omega), ms_ne (by omega), ms_ne (by omega), g5 11 (by omega)]
    · rw [ms_ne (by omega), ms_ne (by omega), ms_ne (by omega), ms_ne (by omega), g5 12 (by omega)]
    · rw [ms_ne (by omega), ms_ne (by omega), ms_ne (by omega), ms_ne (by omega), g5 13 (by omega)]
  unfold f_X6_keep_s14
  rw [show (500 : Int32) * nI n = nI (500 * n) from pk_mul 500 n]
  by_cases c0 : j = 0
  · subst c0
    refine S_t (nI_le (by omega) (by omega)) (S_inr ?_)
    exact fin (Or.inl rfl)
  · refine S_f (nI_ge (by omega) (by omega)) ?_
    rw [nI_sub1 (show 0 < 500 * n + j by omega), show 500 * n + j - 1 = 500 * n + (j - 1) by omega]
    have hjb2 : 500 * n + (j - 1) < 6000 := by omega
    refine S_chk (inb_nI hjb2 (by decide)) ?_
    rw [ix_nI (show 500 * n + (j - 1) < 2 ^ 31 by omega), (g2 (j - 1) (by omega)).1, (g2 (j - 1) (by omega)).2.1]
    have hlj := hlb (j - 1) (by omega)
    have shift : x < l.getD (j - 1) 0 → Sat (f_X6_keep_t63 (nI (500 * n + j)) τ') (Sum.elim (fun a => (∃ j, a.2 = nI (500 * n + j) ∧ j ≤ l.length ∧ (∀ i, i < j → a.1 8 (500 * n + i) = nI (l.getD i 0 / 10) ∧ a.1 9 (500 * n + i) = gK dbl (l.getD i 0) ∧ a.1 10 (500 * n + i) = nI (extK (l.getD i 0))) ∧ (∀ i, j < i → i ≤ l.length → a.1 8 (500 * n + i) = nI (l.getD (i - 1) 0 / 10) ∧ a.1 9 (500 * n + i) = gK dbl (l.getD (i - 1) 0) ∧ a.1 10 (500 * n + i) = nI (extK (l.getD (i - 1) 0))) ∧ (∀ i, j ≤ i → i < l.length → x < l.getD i 0) ∧ (∀ k, k < 8 ∨ 10 < k → a.1 k = τ k) ∧ ∀ k, 8 ≤ k → k ≤ 10 → ∀ i, (i < 500 * n ∨ 500 * n + 500 ≤ i) → a.1 k i = τ k i) ∧ a.2.toNatClampNeg < (nI (500 * n + j)).toNatClampNeg) (fun a => Sat (chk (inb a.2 6000) (nm (ms a.1 8 a.2.toNatClampNeg (nI (x / 10))) (fun σ4 => chk (inb a.2 6000) (nm (ms σ4 9 a.2.toNatClampNeg (gK dbl x)) (fun σ5 => chk (inb a.2 6000) (nm (ms σ5 10 a.2.toNatClampNeg (nI (extK x))) (fun σ6 => chk (inb (nI n) 12) (chk (inb (nI n) 12) (nm (ms σ6 7 n ((σ6 7 n) + 1)) (fun σ8 => some σ8)))))))))) (fun τ' => AccM τ0 n dbl (S ++ [x]) τ' ∧ τ' 11 = τ 11 ∧ τ' 12 = τ 12 ∧ τ' 13 = τ 13))) := by
      intro hlt
      unfold f_X6_keep_t63
      rw [nI_sub1 (show 0 < 500 * n + j by omega), show 500 * n + j - 1 = 500 * n + (j - 1) by omega, ix_nI (show 500 * n + j < 2 ^ 31 by omega), ix_nI (show 500 * n + (j - 1) < 2 ^ 31 by omega)]
      refine S_chk (inb_nI hjb2 (by decide)) (S_chk (inb_nI hjb (by decide)) (S_nm (S_chk (inb_nI hjb2 (by decide)) (S_chk (inb_nI hjb (by decide)) (S_nm (S_chk (inb_nI hjb2 (by decide)) (S_chk (inb_nI hjb (by decide)) (S_nm (S_inl ?_)))))))))
      obtain ⟨j', rfl⟩ : ∃ j', j = j' + 1 := ⟨j - 1, by omega⟩
      rw [Nat.add_sub_cancel] at hlt hjb2 ⊢
      dsimp only
      rw [show 500 * n + (j' + 1) = (500 * n + j') + 1 by omega, nI_dec]
      have r8 := (g2 j' (by omega)).1
      have r9 := (g2 j' (by omega)).2.1
      have r10 := (g2 j' (by omega)).2.2
      refine ⟨⟨j', rfl, by omega, fun i hi => ?_, fun i a b => ?_, fun i a b => ?_, fun k hk => ?_, fun k k1 k2 i hi => ?_⟩, ?_⟩
      · rw [ms_ne (show 8 ≠ 10 by omega), ms_ne (show 8 ≠ 9 by omega), ms_en (by omega), ms_ne (show 9 ≠ 10 by omega), ms_en (by omega), ms_ne (show 9 ≠ 8 by omega), ms_en (by omega), ms_ne (show 10 ≠ 9 by omega), ms_ne (show 10 ≠ 8 by omega)]
        exact g2 i (by omega)
      · rw [ms_ne (show 8 ≠ 10 by omega), ms_ne (show 8 ≠ 9 by omega), ms_ne (show 9 ≠ 10 by omega)]
        by_cases c2 : i = j' + 1
        · subst c2
          rw [Nat.add_sub_cancel, ← Nat.add_assoc, ms_eq, ms_eq, ms_eq, ms_ne (show 9 ≠ 8 by omega), ms_ne (show 10 ≠ 9 by omega), ms_ne (show 10 ≠ 8 by omega)]
          exact ⟨r8, r9, r10⟩
        · rw [ms_en (by omega), ms_en (by omega), ms_en (by omega), ms_ne (show 9 ≠ 8 by omega), ms_ne (show 10 ≠ 9 by omega), ms_ne (show 10 ≠ 8 by omega)]
          exact g3 i (by omega) b
      · by_cases c2 : i = j'
        · subst c2
          exact hlt
        · exact g4 i (by omega) b
      · rw [ms_ne (by omega), ms_ne (by omega), ms_ne (by omega)]
        exact g5 k hk
      · rw [ms_ap, if_neg (by omega), ms_ap, if_neg (by omega), ms_ap, if_neg (by omega)]
        exact g6 k k1 k2 i hi
      · first | omega | (rw [ix_nI (show 500 * n + j' < 2 ^ 31 by omega)]; omega)
    by_cases c1 : l.getD (j - 1) 0 ≤ x
    · refine S_f ?_ (S_chk (inb_nI hjb2 (by decide)) ?_)
      · exact nI_nlt (by omega) (by omega)
      · by_cases c2 : l.getD (j - 1) 0 / 10 = x / 10
        · refine S_t (by rw [c2]) (S_chk (inb_nI hjb2 (by decide)) (S_t ?_ (S_inr ?_)))
          · exact (gK_le hlj hx c2 (fun e => hls e (j - 1) (by omega))).mpr c1
          · exact fin (Or.inr c1)
        · refine S_f (fun q => c2 ((nI_eq (by omega) (by omega)).mp q)) (S_inr ?_)
          exact fin (Or.inr c1)
    · by_cases c2 : x / 10 < l.getD (j - 1) 0 / 10
      · refine S_t (nI_lt c2 (by omega)) ?_
        exact shift (by omega)
      · refine S_f (nI_nlt (by omega) (by omega)) (S_chk (inb_nI hjb2 (by decide)) ?_)
        have c3 : l.getD (j - 1) 0 / 10 = x / 10 := by omega
        refine S_t (by rw [c3]) (S_chk (inb_nI hjb2 (by decide)) (S_f ?_ ?_))
        · exact fun q => c1 ((gK_le hlj hx c3 (fun e => hls e (j - 1) (by omega))).mp q)
        · exact shift (by omega)
