/-! ===== the class's holds ===== -/
def qdB (d : Int) (w g : Nat) : Bool := decide (w ≠ 0) && decide (g ≠ 0) && decide (w ≠ 5) && decide (g ≠ 5) && decide (offW g - offW w = d) && (decide (w = g) || !decide (w % 5 = g % 5))
def qdL (d : Int) (w g : Nat) : List Nat := if qdB d w g = true then [0] else []
theorem fm_len {f g : Nat → List Nat} : ∀ (l : List Nat), (∀ x, x ∈ l → (f x).length ≤ (g x).length) → (l.flatMap f).length ≤ (l.flatMap g).length
  | [], _ => Nat.le_refl _
  | x :: l, h => by
    rw [List.flatMap_cons, List.flatMap_cons, List.length_append, List.length_append]
    have h1 := h x List.mem_cons_self
    have h2 := fm_len l (fun y hy => h y (List.mem_cons_of_mem _ hy))
    omega
theorem fm_le {f : Nat → List Nat} (c : Nat) : ∀ (l : List Nat), (∀ x, x ∈ l → (f x).length ≤ c) → (l.flatMap f).length ≤ l.length * c
  | [], _ => by simp
  | x :: l, h => by
    rw [List.flatMap_cons, List.length_append, List.length_cons, Nat.succ_mul]
    have h1 := h x List.mem_cons_self
    have h2 := fm_le c l (fun y hy => h y (List.mem_cons_of_mem _ hy))
    omega
theorem qd_le (d : Int) : (W10.flatMap (fun w => W10.flatMap (qdL d w))).length ≤ 10 := by
  by_cases h : -6 ≤ d ∧ d ≤ 6
  · rcases (show d = -6 ∨ d = -5 ∨ d = -4 ∨ d = -3 ∨ d = -2 ∨ d = -1 ∨ d = 0 ∨ d = 1 ∨ d = 2 ∨ d = 3 ∨ d = 4 ∨ d = 5 ∨ d = 6 by omega) with rfl | rfl | rfl | rfl | rfl | rfl | rfl | rfl | rfl | rfl | rfl | rfl | rfl <;> decide
  · have key : ∀ w ∈ W10, ∀ g ∈ W10, (qdL d w g).length ≤ 0 := by
      intro w hw g hg
      have h1 : -6 ≤ offW g - offW w ∧ offW g - offW w ≤ 6 := by
        have hh : ∀ w ∈ W10, 0 ≤ offW w ∧ offW w ≤ 6 := by decide
        have a1 := hh w hw
        have a2 := hh g hg
        omega
      unfold qdL qdB
      rw [if_neg]
      · exact Nat.le_refl _
      · intro q
        simp only [Bool.and_eq_true, decide_eq_true_eq] at q
        omega
    have h2 : ∀ w ∈ W10, (W10.flatMap (qdL d w)).length ≤ 0 := fun w hw => by
      have := fm_le 0 W10 (key w hw)
      omega
    have := fm_le 0 W10 h2
    omega
theorem hv_neg {w : Nat} {h : Int} (hw : w ≠ 0) (h1 : 0 ≤ hv w h) : w ≠ 5 ∧ 1 ≤ hv w h ∧ hv w h ≤ 12 ∧ hv w h = h - offW w := by
  unfold hv at h1 ⊢
  rw [if_neg hw] at h1 ⊢
  by_cases h5 : w = 5
  · rw [if_pos h5] at h1
    omega
  · rw [if_neg h5] at h1 ⊢
    by_cases c : 1 ≤ h - offW w ∧ h - offW w ≤ 12
    · rw [if_pos c]
      exact ⟨h5, c.1, c.2, rfl⟩
    · rw [if_neg c] at h1
      omega
theorem hv_zero {h : Int} (h1 : 0 ≤ hv 0 h) : h = 0 ∧ hv 0 h = 0 := by
  unfold hv at h1 ⊢
  rw [if_pos rfl] at h1 ⊢
  by_cases c : h = 0
  · rw [if_pos c]
    exact ⟨c, rfl⟩
  · rw [if_neg c] at h1
    omega
theorem hv_le {w : Nat} {h : Int} : hv w h ≤ 12 ∧ -1 ≤ hv w h := by
  unfold hv
  split
  · split <;> omega
  · split
    · omega
    · split <;> omega
theorem off_nn (w : Nat) : 0 ≤ offW w := by
  unfold offW
  split <;> omega
theorem pr2_le {s : Nat} {h1 h2 : Int} {w g : Nat} : (pr2 s h1 h2 w g).length ≤ 1 := by
  unfold pr2
  split
  · split <;> simp
  · simp
theorem prs_le (s : Nat) (h1 h2 : Int) : (prs W10 s h1 h2).length ≤ 10 := by
  unfold prs
  by_cases c1 : h1 = 0
  · have key : ∀ w ∈ W10, w ≠ 0 → (pr1 s h1 h2 W10 w).length ≤ 0 := by
      intro w _ hw
      unfold pr1
      by_cases q : 0 ≤ hv w h1
      · have := hv_neg hw q
        have := off_nn w
        omega
      · rw [if_neg q]
        exact Nat.le_refl _
    have e : W10 = 0 :: [1, 2, 3, 4, 5, 6, 7, 8, 9] := rfl
    have k2 := fm_le (f := pr1 s h1 h2 W10) 0 [1, 2, 3, 4, 5, 6, 7, 8, 9] (fun w hw => key w (by rw [e]; exact List.mem_cons_of_mem _ hw) (by intro q; subst q; simp at hw))
    have k3 : (pr1 s h1 h2 W10 0).length ≤ 10 := by
      unfold pr1
      split
      · exact fm_le 1 W10 (fun g _ => pr2_le)
      · simp
    have k4 : (W10.flatMap (pr1 s h1 h2 W10)).length = (pr1 s h1 h2 W10 0).length + ([1, 2, 3, 4, 5, 6, 7, 8, 9].flatMap (pr1 s h1 h2 W10)).length := by
      show ((0 :: [1, 2, 3, 4, 5, 6, 7, 8, 9]).flatMap (pr1 s h1 h2 W10)).length = _
      rw [List.flatMap_cons, List.length_append]
    omega
  · by_cases c2 : h2 = 0
    · have key : ∀ w ∈ W10, (pr1 s h1 h2 W10 w).length ≤ 1 := by
        intro w _
        unfold pr1
        split
        · have hg : ∀ g ∈ W10, g ≠ 0 → (pr2 s h1 h2 w g).length ≤ 0 := by
            intro g _ hg
            unfold pr2
            by_cases q : 0 ≤ hv g h2
            · have := hv_neg hg q
              have := off_nn g
              omega
            · rw [if_neg q]
              exact Nat.le_refl _
          have k2 := fm_le (f := pr2 s h1 h2 w) 0 [1, 2, 3, 4, 5, 6, 7, 8, 9] (fun g hg2 => hg g (List.mem_cons_of_mem _ hg2) (by intro q; subst q; simp at hg2))
          have k4 : (W10.flatMap (pr2 s h1 h2 w)).length = (pr2 s h1 h2 w 0).length + ([1, 2, 3, 4, 5, 6, 7, 8, 9].flatMap (pr2 s h1 h2 w)).length := by
            show ((0 :: [1, 2, 3, 4, 5, 6, 7, 8, 9]).flatMap (pr2 s h1 h2 w)).length = _
            rw [List.flatMap_cons, List.length_append]
          have := pr2_le (s := s) (h1 := h1) (h2 := h2) (w := w) (g := 0)
          omega
        · simp
      exact fm_le 1 W10 key
    · refine Nat.le_trans (fm_len W10 (g := fun w => W10.flatMap (qdL (h2 - h1) w)) (fun w _ => ?_)) (qd_le (h2 - h1))
      unfold pr1
      by_cases q : 0 ≤ hv w h1
      · rw [if_pos q]
        refine fm_len W10 (fun g _ => ?_)
        have hw0 : w ≠ 0 := by
          intro e
          subst e
          exact c1 (hv_zero q).1
        unfold pr2
        by_cases q2 : 0 ≤ hv g h2
        · rw [if_pos q2]
          have hg0 : g ≠ 0 := by
            intro e
            subst e
            exact c2 (hv_zero q2).1
          obtain ⟨a1, a2, a3, a4⟩ := hv_neg hw0 q
          obtain ⟨b1, b2, b3, b4⟩ := hv_neg hg0 q2
          by_cases t : tog w (hv w h1) g (hv g h2) = true
          · rw [if_pos t]
            unfold tog at t
            simp only [Bool.or_eq_true, Bool.and_eq_true, decide_eq_true_eq, hw0, hg0, false_or] at t
            have hq : qdB (h2 - h1) w g = true := by
              unfold qdB
              simp only [Bool.and_eq_true, decide_eq_true_eq, Bool.or_eq_true]
              refine ⟨⟨⟨⟨⟨hw0, hg0⟩, a1⟩, b1⟩, ?_⟩, t.2⟩
              have := t.1
              omega
            unfold qdL
            rw [if_pos hq]
            exact Nat.le_refl _
          · rw [if_neg t]
            exact Nat.zero_le _
        · rw [if_neg q2]
          exact Nat.zero_le _
      · rw [if_neg q]
        exact Nat.zero_le _
theorem sqs_le (O : Nat → Nat) (P Q : Nat) : (sqs W10 O P Q).length ≤ 60 := by
  unfold sqs
  split
  · have h : ∀ s ∈ [0, 1, 2, 3], (sgs W10 O P s).length ≤ 10 := fun s _ => fm_le 1 W10 (fun w _ => by unfold sg1; split <;> simp)
    exact Nat.le_trans (fm_le 10 [0, 1, 2, 3] h) (by decide)
  · refine fm_le 20 [0, 1, 2] (fun s _ => ?_)
    rw [List.length_append]
    have h1 := prs_le s ((P : Int) - O s) ((Q : Int) - O (s + 1))
    have h2 := prs_le s ((Q : Int) - O s) ((P : Int) - O (s + 1))
    omega
/-- the holds listed so far in a note's row -/
def SegC (σ : Mm) (n : Nat) (l : List Nat) : Prop := σ 5 n = nI l.length ∧ ∀ i, i < l.length → σ (7 + n) i = nI (l.getD i 0)
def FrC (σ τ : Mm) (n : Nat) : Prop := (∀ k, k ≠ 5 → k ≠ 7 + n → τ k = σ k) ∧ ∀ j, j ≠ n → τ 5 j = σ 5 j
def AccC (σ0 : Mm) (n : Nat) (S : List Nat) (σ : Mm) : Prop := ∃ l, Srt l ∧ l.Perm S ∧ SegC σ n l ∧ FrC σ0 σ n
theorem inC_5 {n : Nat} (h : n < 12) : inC 5 (nI n) = true := by
  unfold inC
  rw [Bool.and_eq_true]
  exact ⟨rfl, inb_nI h (by decide)⟩
theorem inC_7 {n i : Nat} (h : n < 12) (hi : i < 60) : inC (7 + n) (nI i) = true := by
  unfold inC
  rw [Bool.and_eq_true]
  have hk : kdC (7 + n) = 5 ∧ lnC (7 + n) = 60 := by
    rcases (show n = 0 ∨ n = 1 ∨ n = 2 ∨ n = 3 ∨ n = 4 ∨ n = 5 ∨ n = 6 ∨ n = 7 ∨ n = 8 ∨ n = 9 ∨ n = 10 ∨ n = 11 by omega) with rfl | rfl | rfl | rfl | rfl | rfl | rfl | rfl | rfl | rfl | rfl | rfl <;> exact ⟨rfl, rfl⟩
  rw [hk.1, hk.2]
  exact ⟨rfl, inb_nI hi (by decide)⟩
theorem inC_19 {n i : Nat} (h : n < 12) (hi : i < 60) : inC (19 + n) (nI i) = true := by
  unfold inC
  rw [Bool.and_eq_true]
  have hk : kdC (19 + n) = 5 ∧ lnC (19 + n) = 60 := by
    rcases (show n = 0 ∨ n = 1 ∨ n = 2 ∨ n = 3 ∨ n = 4 ∨ n = 5 ∨ n = 6 ∨ n = 7 ∨ n = 8 ∨ n = 9 ∨ n = 10 ∨ n = 11 by omega) with rfl | rfl | rfl | rfl | rfl | rfl | rfl | rfl | rfl | rfl | rfl | rfl <;> exact ⟨rfl, rfl⟩
  rw [hk.1, hk.2]
  exact ⟨rfl, inb_nI hi (by decide)⟩
theorem nI_dec (j : Nat) : nI (j + 1) + (-1) = nI j := pk_m1 j
set_option maxHeartbeats 1000000 in
theorem insC {σ0 σ : Mm} {n x : Nat} {S : List Nat} (hn : n < 12) (hA : AccC σ0 n S σ) (hS : S.length < 60) (hx : x < 100000) (hb : ∀ y ∈ S, y < 100000) : Sat (f_X1_insert σ (nI n) (nI x)) (AccC σ0 n (S ++ [x])) := by
  obtain ⟨l, h1, h2, ⟨h3, h4⟩, h5, h6⟩ := hA
  have hl : l.length < 60 := by rw [h2.length_eq]; exact hS
  have hlb : ∀ i, i < l.length → l.getD i 0 < 100000 := fun i hi => by
    simp only [List.getD_eq_getElem?_getD, List.getElem?_eq_getElem hi, Option.getD_some]
    exact hb _ (h2.subset (List.getElem_mem hi))
  unfold f_X1_insert
  refine S_chk (inb_nI hn (by decide)) (S_chk (inC_5 hn) ?_)
  rw [ix_nI (show n < 2 ^ 31 by omega), h3]
  refine S_t (nI_lt (a := l.length) (b := 60) hl (by decide)) (S_bn1 ?_)
  refine S_lq1 (fun σ' v => ∃ j, v = nI j ∧ j ≤ l.length ∧ (∀ i, i < j → σ' (7 + n) i = nI (l.getD i 0)) ∧ (∀ i, j < i → i ≤ l.length → σ' (7 + n) i = nI (l.getD (i - 1) 0)) ∧ (∀ i, j ≤ i → i < l.length → x < l.getD i 0) ∧ ∀ k, k ≠ 7 + n → σ' k = σ k) (fun _ v => v.toNatClampNeg) ?_ fu σ (nI l.length) (by rw [ix_nI (by omega)]; unfold fu; omega) ⟨l.length, rfl, Nat.le_refl _, fun i hi => h4 i hi, fun i a b => by omega, fun i a b => by omega, fun k _ => rfl⟩
  rintro σ' v ⟨j, rfl, g1, g2, g3, g4, g5⟩
  have fin : (j = 0 ∨ l.getD (j - 1) 0 ≤ x) → Sat (chk (inC (7 + n) (nI j)) (nm (ms σ' (7 + n) (nI j).toNatClampNeg (nI x)) (fun σ6 => chk (inC 5 (nI n)) (chk (inC 5 (nI n)) (nm (ms σ6 5 n ((σ6 5 n) + 1)) (fun σ8 => some σ8)))))) (AccC σ0 n (S ++ [x])) := by
    intro hj
    refine S_chk (inC_7 hn (by omega)) (S_nm (S_chk (inC_5 hn) (S_chk (inC_5 hn) (S_nm (S_some ?_)))))
    rw [ix_nI (show j < 2 ^ 31 by omega)]
    refine ⟨putL l j x, putL_srt h1 g1 hj (fun i a b => Nat.le_of_lt (g4 i a b)), ?_, ⟨?_, ?_⟩, ?_, ?_⟩
    · refine (putL_perm l j x).trans ((List.Perm.cons x h2).trans ?_)
      exact (List.perm_append_comm (l₁ := [x]) (l₂ := S))
    · rw [ms_eq, ms_ne (by omega), g5 5 (by omega), h3, putL_len]
      exact nI_1 _
    · intro i hi
      rw [putL_len] at hi
      rw [ms_ne (by omega), putL_get g1, ms_ap]
      by_cases c1 : i = j
      · rw [if_pos ⟨rfl, c1⟩, if_neg (by omega), if_pos c1]
      · rw [if_neg (fun q => c1 q.2)]
        by_cases c2 : i < j
        · rw [if_pos c2]
          exact g2 i c2
        · rw [if_neg c2, if_neg c1]
          exact g3 i (by omega) (by omega)
    · intro k k1 k2
      rw [ms_ne k1, ms_ne k2, g5 k k2]
      exact h5 k k1 k2
    · intro i hi
      rw [ms_en hi, ms_ne (by omega), g5 5 (by omega)]
      exact h6 i hi
  unfold f_X1_insert_s23
  by_cases c0 : j = 0
  · subst c0
    refine S_t (show nI 0 ≤ 0 by decide) (S_inr ?_)
    exact fin (Or.inl rfl)
  · refine S_f (nI_nle (by omega) (by omega)) ?_
    rw [nI_sub1 (by omega), ix_nI (show n < 2 ^ 31 by omega)]
    refine S_chk (inC_7 hn (by omega)) ?_
    rw [ix_nI (show j - 1 < 2 ^ 31 by omega), g2 (j - 1) (by omega)]
    have hlj := hlb (j - 1) (by omega)
    by_cases c1 : l.getD (j - 1) 0 ≤ x
    · refine S_t (nI_le c1 (by omega)) (S_inr ?_)
      exact fin (Or.inr c1)
    · refine S_f (nI_ge (by omega) (by omega)) (S_chk (inC_7 hn (by omega)) (S_chk (inC_7 hn (by omega)) (S_nm (S_inl ?_))))
      rw [ix_nI (show j < 2 ^ 31 by omega)]
      obtain ⟨j', rfl⟩ : ∃ j', j = j' + 1 := ⟨j - 1, by omega⟩
      rw [nI_dec]
      dsimp only
      refine ⟨⟨j', rfl, by omega, fun i hi => ?_, fun i a b => ?_, fun i a b => ?_, fun k hk => ?_⟩, ?_⟩
      · rw [ms_en (by omega)]
        exact g2 i (by omega)
      · by_cases c2 : i = j' + 1
        · subst c2
          rw [ms_eq]
        · rw [ms_en c2]
          exact g3 i (by omega) b
      · by_cases c2 : i = j'
        · subst c2
          rw [Nat.add_sub_cancel] at c1
          omega
        · exact g4 i (by omega) b
      · rw [ms_ne hk]
        exact g5 k hk
      · rw [ix_nI (show j' < 2 ^ 31 by omega)]
        omega
