/-! ===== the class's holds: pairs, all of a note ===== -/
def qI (q : Nat) : Int32 := if q = 0 then -1 else nI q
theorem finger_eq {σ : Mm} {w : Nat} (h : w < 10) : f_X4_fingerOf σ (nI w) = some (σ, nI (w % 5)) := by
  unfold f_X4_fingerOf
  rw [show nI w - nI w / 5 * 5 = nI (w % 5) from pk_rem (d := 5) (by omega) (by decide) (by decide)]
theorem tog_eq {σ : Mm} {w x g y : Nat} (hw : w < 10) (hg : g < 10) (hx : x ≤ 12) (hy : y ≤ 12) : f_X4_goTogether σ (nI w) (nI x) (nI g) (nI y) = some (σ, if tog w x g y = true then 1 else 0) := by
  unfold f_X4_goTogether tog
  by_cases c1 : w = 0
  · subst c1
    rw [if_pos (show nI 0 = 0 from rfl)]
    rfl
  · rw [if_neg (nI_ne0 (by omega) (by omega))]
    by_cases c2 : g = 0
    · subst c2
      rw [if_pos (show nI 0 = 0 from rfl)]
      simp
    · rw [if_neg (nI_ne0 (by omega) (by omega))]
      by_cases c3 : x = y
      · subst c3
        rw [if_pos rfl]
        by_cases c4 : w = g
        · subst c4
          rw [if_pos rfl]
          simp
        · rw [if_neg (fun q => c4 ((nI_eq (by omega) (by omega)).mp q)), show nI w - nI w / 5 * 5 = nI (w % 5) from pk_rem (d := 5) (by omega) (by decide) (by decide), show nI g - nI g / 5 * 5 = nI (g % 5) from pk_rem (d := 5) (by omega) (by decide) (by decide)]
          by_cases c5 : w % 5 = g % 5
          · rw [if_pos (by rw [c5])]
            simp [c1, c2, c4, c5]
          · rw [if_neg (fun q => c5 ((nI_eq (by omega) (by omega)).mp q))]
            simp [c5]
      · rw [if_neg (fun q => c3 ((nI_eq (by omega) (by omega)).mp q))]
        have c3' : ¬ ((x : Int) = (y : Int)) := by omega
        simp only [c1, c2, c3', decide_false, Bool.false_or, Bool.false_and]
        rfl
theorem max_nI {x y : Nat} (hx : x ≤ 12) (hy : y ≤ 12) : (if nI x < nI y then nI y else nI x) = nI (if (x : Int) < (y : Int) then (y : Int) else (x : Int)).toNat := by
  by_cases c : x < y
  · rw [if_pos (nI_lt c (by omega)), if_pos (by omega)]
    rfl
  · rw [if_neg (nI_nlt (by omega) (by omega)), if_neg (by omega)]
    rfl
set_option maxHeartbeats 1000000 in
theorem pairC1 {σ0 σ : Mm} {n s w : Nat} {S : List Nat} {r4 : Int32} {h1 : Int} {ht : Int32} (hn : n < 12) (hs : s < 4) (hw : w < 10) (e4 : r4.toInt = hv w h1) (g1 : -1000 ≤ ht.toInt) (g2 : ht.toInt ≤ 1000) (hA : AccC σ0 n S σ) (hF : Fit (S ++ pr1 s h1 ht.toInt W10 w)) : Sat (lq1 (f_X1_listPairs_s21 r4 ht (nI w) (nI s) (nI n)) fu σ 0) (AccC σ0 n (S ++ pr1 s h1 ht.toInt W10 w)) := by
  by_cases c0 : hv w h1 < 0
  · have e0 : pr1 s h1 ht.toInt W10 w = [] := by
      unfold pr1
      rw [if_neg (by omega)]
    rw [e0, List.append_nil]
    refine S_lq1 (fun σ' _ => AccC σ0 n S σ') (fun _ _ => 0) ?_ fu σ 0 (by unfold fu; omega) hA
    intro σ' v h'
    unfold f_X1_listPairs_s21
    exact S_t ((hand_lt e4).mpr c0) (S_inr h')
  · have e0 : pr1 s h1 ht.toInt W10 w = W10.flatMap (pr2 s h1 ht.toInt w) := by
      unfold pr1
      rw [if_pos (by omega)]
    rw [e0] at hF ⊢
    refine S_lq1 (fun σ' v => ∃ g, v = nI g ∧ g ≤ 10 ∧ AccC σ0 n (S ++ (W10.take g).flatMap (pr2 s h1 ht.toInt w)) σ') (fun _ v => 10 - v.toNatClampNeg) ?_ fu σ 0 (by unfold fu; omega) ⟨0, rfl, by omega, AccC_cast hA (by simp)⟩
    rintro σ' v ⟨g, rfl, hg, hA'⟩
    unfold f_X1_listPairs_s21
    refine S_f (fun q => c0 ((hand_lt e4).mp q)) ?_
    by_cases c : g = 10
    · subst c
      refine S_t (show (10 : Int32) ≤ nI 10 by decide) (S_inr ?_)
      exact hA'
    · have hg' : g < 10 := by omega
      refine S_f (nI_ge (a := g) (b := 10) hg' (by decide)) (S_bn1 ?_)
      obtain ⟨r, e1, e2⟩ := hand_eq (σ := σ') hg' g1 g2
      refine S_eq e1 ?_
      dsimp only
      have hst := Fit.step hg' hF rfl
      have fin : ∀ σ2, AccC σ0 n (S ++ (W10.take g).flatMap (pr2 s h1 ht.toInt w) ++ pr2 s h1 ht.toInt w g) σ2 → (∃ w', nI g + 1 = nI w' ∧ w' ≤ 10 ∧ AccC σ0 n (S ++ (W10.take w').flatMap (pr2 s h1 ht.toInt w)) σ2) ∧ 10 - (nI g + 1).toNatClampNeg < 10 - (nI g).toNatClampNeg := by
        intro σ2 h2
        refine ⟨⟨g + 1, nI_1 g, by omega, ?_⟩, ?_⟩
        · rw [w10_take hg', fm_snoc, ← List.append_assoc]
          exact h2
        · rw [nI_1, ix_nI (by omega), ix_nI (by omega)]
          omega
      by_cases c2 : hv g ht.toInt < 0
      · refine S_t ((hand_lt e2).mpr c2) (S_inl ?_)
        refine fin σ' (AccC_cast hA' ?_)
        unfold pr2
        rw [if_neg (by omega), List.append_nil]
      · refine S_f (fun q => c2 ((hand_lt e2).mp q)) ?_
        have hx := hv_le (w := w) (h := h1)
        have hy := hv_le (w := g) (h := ht.toInt)
        have tx : ((hv w h1).toNat : Int) = hv w h1 := by omega
        have ty : ((hv g ht.toInt).toNat : Int) = hv g ht.toInt := by omega
        rw [hand_nI e2 (by omega) hy.1, hand_nI e4 (by omega) hx.1]
        refine S_bn1 (S_eq (tog_eq hw hg' (by omega) (by omega)) ?_)
        dsimp only
        rw [tx, ty]
        by_cases c3 : tog w (hv w h1) g (hv g ht.toInt) = true
        · rw [if_pos c3]
          refine S_f (by decide) ?_
          rw [max_nI (by omega) (by omega), tx, ty]
          refine S_bn1 (S_eq make_eq (S_bn0 ?_))
          dsimp only
          have es : pr2 s h1 ht.toInt w g = [(1000 * s + 10 * (if hv w h1 < hv g ht.toInt then hv g ht.toInt else hv w h1).toNat + w) * 10 + g] := by
            unfold pr2
            rw [if_pos (by omega), if_pos c3]
            rfl
          rw [es] at hst fin
          exact S_mono (insC' hn hA' hst) (fun σ2 h2 => S_inl (fin σ2 h2))
        · rw [if_neg c3]
          refine S_t rfl (S_inl ?_)
          refine fin σ' (AccC_cast hA' ?_)
          unfold pr2
          rw [if_pos (by omega), if_neg c3, List.append_nil]
set_option maxHeartbeats 1000000 in
theorem pairC {σ0 σ : Mm} {n s : Nat} {S : List Nat} {h1 ht : Int32} (hn : n < 12) (hs : s < 4) (f1 : -1000 ≤ h1.toInt) (f2 : h1.toInt ≤ 1000) (g1 : -1000 ≤ ht.toInt) (g2 : ht.toInt ≤ 1000) (hA : AccC σ0 n S σ) (hF : Fit (S ++ prs W10 s h1.toInt ht.toInt)) : Sat (f_X1_listPairs σ (nI n) (nI s) h1 ht) (AccC σ0 n (S ++ prs W10 s h1.toInt ht.toInt)) := by
  unfold f_X1_listPairs
  refine S_bn0 ?_
  unfold prs at hF ⊢
  refine S_lq1 (fun σ' v => ∃ w, v = nI w ∧ w ≤ 10 ∧ AccC σ0 n (S ++ (W10.take w).flatMap (pr1 s h1.toInt ht.toInt W10)) σ') (fun _ v => 10 - v.toNatClampNeg) ?_ fu σ 0 (by unfold fu; omega) ⟨0, rfl, by omega, AccC_cast hA (by simp)⟩
  rintro σ' v ⟨w, rfl, hw, hA'⟩
  unfold f_X1_listPairs_s3
  by_cases c : w = 10
  · subst c
    refine S_t (show (10 : Int32) ≤ nI 10 by decide) (S_inr (S_some ?_))
    exact hA'
  · have hw' : w < 10 := by omega
    refine S_f (nI_ge (a := w) (b := 10) hw' (by decide)) (S_bn1 ?_)
    obtain ⟨r, e1, e2⟩ := hand_eq (σ := σ') hw' f1 f2
    refine S_eq e1 (S_bn0 ?_)
    dsimp only
    refine S_mono (pairC1 hn hs hw' e2 g1 g2 hA' (Fit.step hw' hF rfl)) (fun σ2 h2 => S_inl ?_)
    refine ⟨⟨w + 1, nI_1 w, by omega, ?_⟩, ?_⟩
    · rw [w10_take hw', fm_snoc, ← List.append_assoc]
      exact h2
    · dsimp only
      rw [nI_1, ix_nI (by omega), ix_nI (by omega)]
      omega
theorem inC_op {s : Nat} (h : s < 4) : inC 1 (nI s) = true := by
  unfold inC
  rw [Bool.and_eq_true]
  exact ⟨rfl, inb_nI h (by decide)⟩
/-- every key of a note is small -/
theorem sqs_small (W : List Nat) (hW : ∀ w ∈ W, w < 10) (O : Nat → Nat) (P Q : Nat) : ∀ y ∈ sqs W O P Q, y < 100000 := by
  have k1 : ∀ s, s < 4 → ∀ y ∈ sgs W O P s, y < 100000 := by
    intro s hs y hy
    obtain ⟨w, hw, hy⟩ := List.mem_flatMap.mp hy
    unfold sg1 at hy
    split at hy
    · rw [List.mem_singleton] at hy
      rw [hy]
      exact mkK_lt hs (hW w hw) (by decide) hv_le.1
    · simp at hy
  have k2 : ∀ s, s < 4 → ∀ (h1 h2 : Int), ∀ y ∈ prs W s h1 h2, y < 100000 := by
    intro s hs h1 h2 y hy
    obtain ⟨w, hw, hy⟩ := List.mem_flatMap.mp hy
    unfold pr1 at hy
    split at hy
    · obtain ⟨g, hg, hy⟩ := List.mem_flatMap.mp hy
      unfold pr2 at hy
      split at hy
      · split at hy
        · rw [List.mem_singleton] at hy
          rw [hy]
          refine mkK_lt hs (hW w hw) (hW g hg) ?_
          have a1 := hv_le (w := w) (h := h1)
          have a2 := hv_le (w := g) (h := h2)
          split <;> omega
        · simp at hy
      · simp at hy
    · simp at hy
  intro y hy
  unfold sqs at hy
  split at hy
  · obtain ⟨s, hs, hy⟩ := List.mem_flatMap.mp hy
    exact k1 s (by simp at hs; omega) y hy
  · obtain ⟨s, hs, hy⟩ := List.mem_flatMap.mp hy
    have h3 : s < 4 := by simp at hs; omega
    rcases List.mem_append.mp hy with hy | hy
    · exact k2 s h3 _ _ y hy
    · exact k2 s h3 _ _ y hy
theorem sqs_fit (O : Nat → Nat) (P Q : Nat) : Fit (sqs W10 O P Q) := ⟨sqs_le O P Q, sqs_small W10 (by decide) O P Q⟩
theorem fm_take {f : Nat → List Nat} {l : List Nat} {s : Nat} (h : s < l.length) : (l.take (s + 1)).flatMap f = (l.take s).flatMap f ++ f (l.getD s 0) := by
  rw [List.take_add_one, List.flatMap_append]
  congr 1
  rw [List.getElem?_eq_getElem h]
  simp [List.getD_eq_getElem?_getD, List.getElem?_eq_getElem h]
theorem fit_take {f : Nat → List Nat} {l : List Nat} {s : Nat} (h : s < l.length) (hF : Fit (l.flatMap f)) : Fit ((l.take s).flatMap f ++ f (l.getD s 0)) := by
  rw [← fm_take h]
  have e : l.flatMap f = (l.take (s + 1)).flatMap f ++ (l.drop (s + 1)).flatMap f := by
    rw [← List.flatMap_append, List.take_append_drop]
  rw [e] at hF
  exact hF.left
theorem get4 {s : Nat} (h : s < 4) : [0, 1, 2, 3].getD s 0 = s := by
  rcases (show s = 0 ∨ s = 1 ∨ s = 2 ∨ s = 3 by omega) with rfl | rfl | rfl | rfl <;> rfl
theorem get3 {s : Nat} (h : s < 3) : [0, 1, 2].getD s 0 = s := by
  rcases (show s = 0 ∨ s = 1 ∨ s = 2 by omega) with rfl | rfl | rfl <;> rfl
theorem ht_eq {P O : Nat} (hP : P ≤ 80) (hO : O ≤ 60) : (nI P - nI O).toInt = (P : Int) - O := pk_sub_toInt (by omega) (by omega)
theorem dbl_eq {σ : Mm} {p n q : Nat} (hp : p < 3) (hn : n < 12) (h : σ (31 + 15 * p + 2) n = qI q) (hq : q ≤ 80) : f_X3_isDouble σ (31 + 15 * p) (nI n) = some (σ, if q = 0 then 0 else 1) := by
  unfold f_X3_isDouble
  rw [chk_t (by rw [kd_part hp]; rfl), chk_t (inC_p hp (by decide) (by decide) hn), ix_nI (by omega), h]
  unfold qI
  by_cases c : q = 0
  · rw [if_pos c, if_pos rfl, if_pos c]
  · rw [if_neg c, if_neg, if_neg c]
    intro e
    have e2 := congrArg Int32.toInt e
    rw [nI_toInt (by omega)] at e2
    have v : (-1 : Int32).toInt = -1 := by decide
    omega
set_option maxHeartbeats 2000000 in
theorem holdsC {σ : Mm} {p n P Q : Nat} {O : Nat → Nat} (hp : p < 3) (hn : n < 12) (hO : ∀ s, s < 4 → σ 1 s = nI (O s) ∧ O s ≤ 60) (hP : σ (31 + 15 * p + 1) n = nI P) (hP2 : P ≤ 80) (hQ : σ (31 + 15 * p + 2) n = qI Q) (hQ2 : Q ≤ 80) :
    Sat (f_X1_listHolds σ 1 (31 + 15 * p) (nI n)) (fun o => ∃ l, Srt l ∧ l.Perm (sqs W10 O P Q) ∧ SegC o.1 n l ∧ FrC σ o.1 n ∧ o.2 = nI l.length) := by
  have hkp : ∀ j, 31 + 15 * p + j ≠ 5 ∧ 31 + 15 * p + j ≠ 7 + n := fun j => by omega
  unfold f_X1_listHolds
  refine S_chk (inC_5 hn) (S_nm (S_chk (by rw [kd_part hp]; rfl) (S_bn1 ?_)))
  rw [ix_nI (show n < 2 ^ 31 by omega)]
  refine S_eq (dbl_eq hp hn (by rw [ms_ne (by omega)]; exact hQ) hQ2) (S_bn0 ?_)
  dsimp only
  have hA0 : AccC (ms σ 5 n 0) n [] (ms σ 5 n 0) := ⟨[], List.Pairwise.nil, List.Perm.refl _, ⟨ms_eq, fun i hi => by simp at hi⟩, fun k _ _ => rfl, fun j _ => rfl⟩
  have hF := sqs_fit O P Q
  have fin : ∀ σ', AccC (ms σ 5 n 0) n (sqs W10 O P Q) σ' → Sat (chk (inC 5 (nI n)) (some (σ', (σ' 5 n)))) (fun o => ∃ l, Srt l ∧ l.Perm (sqs W10 O P Q) ∧ SegC o.1 n l ∧ FrC σ o.1 n ∧ o.2 = nI l.length) := by
    rintro σ' ⟨l, h1, h2, h3, h4, h5⟩
    refine S_chk (inC_5 hn) (S_some ⟨l, h1, h2, h3, ⟨fun k k1 k2 => ?_, fun j hj => ?_⟩, h3.1⟩)
    · dsimp only
      rw [h4 k k1 k2, ms_ne k1]
    · dsimp only
      rw [h5 j hj, ms_en hj]
  by_cases c : Q = 0
  · rw [if_pos c]
    have eS : sqs W10 O P Q = [0, 1, 2, 3].flatMap (sgs W10 O P) := by
      unfold sqs
      rw [if_pos c]
    rw [eS] at hF fin ⊢
    refine S_t rfl (S_bn0 ?_)
    refine S_lq1 (fun σ' v => ∃ s, v = nI s ∧ s ≤ 4 ∧ AccC (ms σ 5 n 0) n (([0, 1, 2, 3].take s).flatMap (sgs W10 O P)) σ') (fun _ v => 4 - v.toNatClampNeg) ?_ fu _ 0 (by unfold fu; omega) ⟨0, rfl, by omega, hA0⟩
    rintro σ' v ⟨s, rfl, hs, hA⟩
    unfold f_X1_listHolds_s100
    by_cases c2 : s = 4
    · subst c2
      refine S_t (show (4 : Int32) ≤ nI 4 by decide) (S_inr (S_some (fin σ' ?_)))
      exact hA
    · have hs' : s < 4 := by omega
      refine S_f (nI_ge (a := s) (b := 4) hs' (by decide)) (S_chk (inC_p hp (by decide) (by decide) hn) (S_chk (inC_op hs') (S_bn0 ?_)))
      have hr : ∀ k, k ≠ 5 → k ≠ 7 + n → σ' k = σ k := by
        obtain ⟨l, h1, h2, h3, h4, h5⟩ := hA
        intro k k1 k2
        rw [h4 k k1 k2, ms_ne k1]
      rw [ix_nI (show n < 2 ^ 31 by omega), ix_nI (show s < 2 ^ 31 by omega), hr _ (hkp 1).1 (hkp 1).2, hr 1 (by omega) (by omega), hP, (hO s hs').1]
      have eh := ht_eq hP2 (hO s hs').2
      have hF' := fit_take (l := [0, 1, 2, 3]) (s := s) (by simpa using hs') hF
      rw [get4 hs'] at hF'
      have b1 := (hO s hs').2
      have key := singC (σ0 := ms σ 5 n 0) (ht := nI P - nI (O s)) hn hs' (by omega) (by omega) hA (by rw [eh]; exact hF')
      rw [eh] at key
      refine S_mono key (fun σ2 h2 => S_inl ⟨⟨s + 1, nI_1 s, by omega, ?_⟩, ?_⟩)
      · rw [fm_take (by simpa using hs'), get4 hs']
        exact h2
      · dsimp only
        rw [nI_1, ix_nI (show s + 1 < 2 ^ 31 by omega)]
        omega
  · rw [if_neg c]
    have eS : sqs W10 O P Q = [0, 1, 2].flatMap (fun s => prs W10 s ((P : Int) - O s) ((Q : Int) - O (s + 1)) ++ prs W10 s ((Q : Int) - O s) ((P : Int) - O (s + 1))) := by
      unfold sqs
      rw [if_neg c]
    have hQ' : σ (31 + 15 * p + 2) n = nI Q := by
      rw [hQ]
      unfold qI
      rw [if_neg c]
    rw [eS] at hF fin ⊢
    refine S_f (by decide) (S_bn0 ?_)
    generalize hfe : (fun s : Nat => prs W10 s ((P : Int) - O s) ((Q : Int) - O (s + 1)) ++ prs W10 s ((Q : Int) - O s) ((P : Int) - O (s + 1))) = F at hF fin ⊢
    refine S_lq1 (fun σ' v => ∃ s, v = nI s ∧ s ≤ 3 ∧ AccC (ms σ 5 n 0) n (([0, 1, 2].take s).flatMap F) σ') (fun _ v => 4 - v.toNatClampNeg) ?_ fu _ 0 (by unfold fu; omega) ⟨0, rfl, by omega, hA0⟩
    rintro σ' v ⟨s, rfl, hs, hA⟩
    unfold f_X1_listHolds_s18
    rw [nI_1]
    by_cases c2 : s = 3
    · subst c2
      refine S_t (show (4 : Int32) ≤ nI 4 by decide) (S_inr (S_some (fin σ' ?_)))
      exact hA
    · have hs' : s < 3 := by omega
      refine S_f (nI_ge (a := s + 1) (b := 4) (by omega) (by decide)) (S_chk (inC_p hp (by decide) (by decide) hn) (S_chk (inC_op (by omega)) (S_chk (inC_p hp (by decide) (by decide) hn) (S_chk (inC_op (by omega)) (S_bn0 ?_)))))
      have hr : ∀ σ', AccC (ms σ 5 n 0) n (([0, 1, 2].take s).flatMap F) σ' → ∀ k, k ≠ 5 → k ≠ 7 + n → σ' k = σ k := by
        rintro σ' ⟨l, h1, h2, h3, h4, h5⟩ k k1 k2
        rw [h4 k k1 k2, ms_ne k1]
      have hO1 := hO s (by omega)
      have hO2 := hO (s + 1) (by omega)
      rw [ix_nI (show n < 2 ^ 31 by omega), ix_nI (show s < 2 ^ 31 by omega), ix_nI (show s + 1 < 2 ^ 31 by omega), hr σ' hA _ (hkp 1).1 (hkp 1).2, hr σ' hA _ (hkp 2).1 (hkp 2).2, hr σ' hA 1 (by omega) (by omega), hP, hQ', hO1.1, hO2.1]
      have a1 := ht_eq hP2 hO1.2
      have a2 := ht_eq hQ2 hO2.2
      have a3 := ht_eq hQ2 hO1.2
      have a4 := ht_eq hP2 hO2.2
      have b1 := hO1.2
      have b2 := hO2.2
      have hF' := fit_take (l := [0, 1, 2]) (s := s) (by simpa using hs') hF
      rw [get3 hs', ← hfe] at hF'
      rw [← List.append_assoc] at hF'
      have key := pairC (σ0 := ms σ 5 n 0) (h1 := nI P - nI (O s)) (ht := nI Q - nI (O (s + 1))) hn (show s < 4 by omega) (by omega) (by omega) (by omega) (by omega) hA (by rw [a1, a2, ← hfe]; exact hF'.left)
      rw [a1, a2] at key
      refine S_mono key (fun σ2 h2 => ?_)
      have hr2 : ∀ k, k ≠ 5 → k ≠ 7 + n → σ2 k = σ k := by
        obtain ⟨l, h1, h2, h3, h4, h5⟩ := h2
        intro k k1 k2
        rw [h4 k k1 k2, ms_ne k1]
      refine S_chk (inC_p hp (by decide) (by decide) hn) (S_chk (inC_op (by omega)) (S_chk (inC_p hp (by decide) (by decide) hn) (S_chk (inC_op (by omega)) (S_bn0 ?_))))
      rw [hr2 _ (hkp 1).1 (hkp 1).2, hr2 _ (hkp 2).1 (hkp 2).2, hr2 1 (by omega) (by omega), hP, hQ', hO1.1, hO2.1]
      have key2 := pairC (σ0 := ms σ 5 n 0) (h1 := nI Q - nI (O s)) (ht := nI P - nI (O (s + 1))) hn (show s < 4 by omega) (by omega) (by omega) (by omega) (by omega) h2 (by rw [a3, a4, ← hfe]; exact hF')
      rw [a3, a4] at key2
      refine S_mono key2 (fun σ3 h3 => S_inl ⟨⟨s + 1, rfl, by omega, ?_⟩, ?_⟩)
      · rw [fm_take (by simpa using hs'), get3 hs', ← hfe]
        rw [← hfe, List.append_assoc] at h3
        exact h3
      · dsimp only
        rw [ix_nI (show s + 1 < 2 ^ 31 by omega)]
        omega
