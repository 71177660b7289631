/-! ===== one list of holds for both ===== -/
def insS (x : Nat) : List Nat → List Nat
  | [] => [x]
  | y :: t => if x ≤ y then x :: y :: t else y :: insS x t
def isrt : List Nat → List Nat
  | [] => []
  | x :: t => insS x (isrt t)
theorem insS_perm (x : Nat) : ∀ l, (insS x l).Perm (x :: l)
  | [] => List.Perm.refl _
  | y :: t => by
    unfold insS
    split
    · exact List.Perm.refl _
    · exact ((insS_perm x t).cons y).trans (List.Perm.swap x y t)
theorem insS_srt (x : Nat) : ∀ l, Srt l → Srt (insS x l)
  | [], _ => List.pairwise_singleton _ _
  | y :: t, h => by
    have h2 := List.pairwise_cons.mp h
    unfold insS
    split
    · rename_i hxy
      refine List.pairwise_cons.mpr ⟨fun z hz => ?_, h⟩
      rcases List.mem_cons.mp hz with rfl | hz
      · exact hxy
      · exact Nat.le_trans hxy (h2.1 z hz)
    · rename_i hxy
      refine List.pairwise_cons.mpr ⟨fun z hz => ?_, insS_srt x t h2.2⟩
      rcases List.mem_cons.mp ((insS_perm x t).subset hz) with rfl | hz
      · omega
      · exact h2.1 z hz
theorem isrt_perm : ∀ l, (isrt l).Perm l
  | [] => List.Perm.refl _
  | x :: t => (insS_perm x (isrt t)).trans ((isrt_perm t).cons x)
theorem isrt_srt : ∀ l, Srt (isrt l)
  | [] => List.Pairwise.nil
  | x :: t => insS_srt x _ (isrt_srt t)
/-- the keys of a note's holds, rising -/
def KL (O : Nat → Nat) (P Q : Nat) : List Nat := isrt (sqs W10 O P Q)
theorem KL_len (O : Nat → Nat) (P Q : Nat) : (KL O P Q).length ≤ 60 := by
  unfold KL
  rw [(isrt_perm _).length_eq]
  exact sqs_le O P Q
theorem KL_lt {O : Nat → Nat} {P Q i : Nat} (h : i < (KL O P Q).length) : (KL O P Q).getD i 0 < 100000 := by
  simp only [List.getD_eq_getElem?_getD, List.getElem?_eq_getElem h, Option.getD_some]
  exact (sqs_fit O P Q).2 _ ((isrt_perm _).subset (List.getElem_mem h))
theorem KL_u {O : Nat → Nat} {P Q : Nat} {l : List Nat} (h1 : Srt l) (h2 : l.Perm (sqs W10 O P Q)) : l = KL O P Q := srt_uniq l _ h1 (isrt_srt _) (h2.trans (isrt_perm _).symm)
theorem hldC {σ : Mm} {p n P Q : Nat} {O : Nat → Nat} (hp : p < 3) (hn : n < 12) (hO : ∀ s, s < 4 → σ 1 s = nI (O s) ∧ O s ≤ 60) (hP : σ (31 + 15 * p + 1) n = nI P) (hP2 : P ≤ 80) (hQ : σ (31 + 15 * p + 2) n = qI Q) (hQ2 : Q ≤ 80) :
    Sat (f_X1_listHolds σ 1 (31 + 15 * p) (nI n)) (fun o => SegC o.1 n (KL O P Q) ∧ FrC σ o.1 n ∧ o.2 = nI (KL O P Q).length) :=
  S_mono (holdsC hp hn hO hP hP2 hQ hQ2) (fun o h => by
    obtain ⟨l, h1, h2, h3, h4, h5⟩ := h
    obtain rfl := KL_u h1 h2
    exact ⟨h3, h4, h5⟩)
theorem fit9 (O : Nat → Nat) (P Q : Nat) : Fit (sqs W9 O P Q) := ⟨by rw [(sqs_w O P Q).length_eq]; exact sqs_le O P Q, sqs_small W9 (by decide) O P Q⟩
theorem ix12 {p n : Nat} (hp : p < 3) (hn : n < 12) : (12 : Int32) * nI p + nI n = nI (12 * p + n) := by
  rw [show (12 : Int32) * nI p = nI (12 * p) from pk_mul 12 p, nI_add]
theorem in12 {p n : Nat} (hp : p < 3) (hn : n < 12) : inb (nI (12 * p + n)) 36 = true := inb_nI (by omega) (by decide)
set_option maxHeartbeats 4000000 in
theorem holdsM {τ : Mm} {p n P Q : Nat} {O : Nat → Nat} (hp : p < 3) (hn : n < 12) (hO : ∀ s, s < 4 → τ 1 s = nI (O s) ∧ O s ≤ 60) (hP : τ 3 (12 * p + n) = nI P) (hP2 : P ≤ 80) (hQ : τ 4 (12 * p + n) = qI Q) (hQ2 : Q ≤ 80) :
    Sat (f_X6_findHolds τ (nI p) (nI n)) (fun τ' => SegM τ' n (decide (Q ≠ 0)) (KL O P Q) ∧ FrM τ τ' n) := by
  unfold f_X6_findHolds
  refine S_chk (inb_nI hn (by decide)) (S_nm (S_bn0 ?_))
  rw [ix_nI (show n < 2 ^ 31 by omega)]
  have hA0 : ∀ dbl, AccM (ms τ 7 n 0) n dbl [] (ms τ 7 n 0) := fun dbl => ⟨[], List.Pairwise.nil, List.Perm.refl _, ⟨ms_eq, fun i hi => by simp at hi⟩, fun k _ => rfl, fun j _ => rfl, fun k _ _ i _ => rfl⟩
  have hF := fit9 O P Q
  have fin : ∀ τ', AccM (ms τ 7 n 0) n (decide (Q ≠ 0)) (sqs W9 O P Q) τ' → SegM τ' n (decide (Q ≠ 0)) (KL O P Q) ∧ FrM τ τ' n := by
    rintro τ' ⟨l, h1, h2, h3, h4, h5, h6⟩
    obtain rfl := KL_u h1 (h2.trans (sqs_w O P Q))
    refine ⟨h3, fun k hk => ?_, fun j hj => ?_, fun k k1 k2 i hi => ?_⟩
    · rw [h4 k hk, ms_ne (by omega)]
    · rw [h5 j hj, ms_en hj]
    · rw [h6 k k1 k2 i hi, ms_ne (by omega)]
  have rows : ∀ (dbl : Bool) (S : List Nat) (τ' : Mm), AccM (ms τ 7 n 0) n dbl S τ' → ∀ k, k < 7 → τ' k = τ k := by
    rintro dbl S τ' ⟨l, h1, h2, h3, h4, h5⟩ k hk
    rw [h4 k (by omega), ms_ne (by omega)]
  by_cases c : Q = 0
  · have eS : sqs W9 O P Q = [0, 1, 2, 3].flatMap (sgs W9 O P) := by
      unfold sqs
      rw [if_pos c]
    have eD : decide (Q ≠ 0) = false := by simp [c]
    have eQ : τ 4 (12 * p + n) = -1 := by
      rw [hQ]
      unfold qI
      rw [if_pos c]
    rw [eS] at hF fin
    rw [eD] at fin ⊢
    have hF4 : ∀ y ∈ [0, 1, 2, 3].flatMap (sgs W9 O P), y % 10 = 0 := by
      intro y hy
      obtain ⟨s, _, hy⟩ := List.mem_flatMap.mp hy
      obtain ⟨w, _, hy⟩ := List.mem_flatMap.mp hy
      unfold sg1 at hy
      split at hy
      · rw [List.mem_singleton] at hy
        rw [hy]
        unfold mkK
        omega
      · simp at hy
    refine S_lq1 (fun τ' v => ∃ s, v = nI s ∧ s ≤ 4 ∧ AccM (ms τ 7 n 0) n false (([0, 1, 2, 3].take s).flatMap (sgs W9 O P)) τ') (fun _ v => 4 - v.toNatClampNeg) ?_ fu _ 0 (by unfold fu; omega) ⟨0, rfl, by omega, hA0 false⟩
    rintro τ' v ⟨s, rfl, hs, hA⟩
    unfold f_X6_findHolds_s17
    by_cases c2 : s = 4
    · subst c2
      refine S_t (show (4 : Int32) ≤ nI 4 by decide) (S_inr (S_some (fin τ' ?_)))
      exact hA
    · have hs' : s < 4 := by omega
      have hr := rows _ _ _ hA
      refine S_f (nI_ge (a := s) (b := 4) hs' (by decide)) ?_
      rw [ix12 hp hn]
      refine S_chk (in12 hp hn) (S_f ?_ (S_chk (in12 hp hn) (S_bn0 ?_)))
      · rw [ix_nI (show 12 * p + n < 2 ^ 31 by omega), hr 4 (by omega), eQ]
        decide
      · rw [ix_nI (show 12 * p + n < 2 ^ 31 by omega), hr 3 (by omega), hP]
        have hOs := hO s hs'
        have b1 := hOs.2
        refine S_mono (onesM (τ := τ') (pl := 0) (s := s) (h := (P : Int) - O s) (by decide) hs' (by rw [hr 1 (by omega), hOs.1]; exact ht_eq hP2 hOs.2) (by omega) (by omega)) (fun τ1 q1 => S_bn0 ?_)
        obtain ⟨a1, a2, a3, a4, a5⟩ := q1
        have hA1 : AccM (ms τ 7 n 0) n false (([0, 1, 2, 3].take s).flatMap (sgs W9 O P)) τ1 := AccM_same hA a4
        have hFs := fit_take (l := [0, 1, 2, 3]) (s := s) (by simpa using hs') hF
        have hSs : ∀ y ∈ ([0, 1, 2, 3].take (s + 1)).flatMap (sgs W9 O P), y % 10 = 0 := by
          intro y hy
          obtain ⟨s2, h2, hy⟩ := List.mem_flatMap.mp hy
          exact hF4 y (List.mem_flatMap.mpr ⟨s2, List.mem_of_mem_take h2, hy⟩)
        rw [fm_take (by simpa using hs')] at hSs
        rw [get4 hs'] at hFs hSs
        generalize hS0 : ([0, 1, 2, 3].take s).flatMap (sgs W9 O P) = S0 at hA1 hFs hSs
        rw [← sgs_wl] at hFs hSs
        have eW := sgs_wl O P s
        generalize hh : (P : Int) - O s = h at *
        generalize hFF : (fun w => [mkK s (hv w h) w 0]) = FF at hFs hSs eW
        have l1 := wl_len (h := h)
        refine S_mono (P := AccM (ms τ 7 n 0) n false (S0 ++ (wl h).flatMap FF)) ?_ (fun τ3 h3 => S_inl ?_)
        · refine S_lq1 (fun τ3 v => ∃ i, v = nI i ∧ i ≤ (wl h).length ∧ AccM (ms τ 7 n 0) n false (S0 ++ ((wl h).take i).flatMap FF) τ3 ∧ τ3 11 = τ1 11 ∧ τ3 12 = τ1 12 ∧ τ3 13 = τ1 13) (fun _ v => 9 - v.toNatClampNeg) ?_ fu τ1 0 (by unfold fu; omega) ⟨0, rfl, by omega, AccM_cast hA1 (by simp), rfl, rfl, rfl⟩
          rintro τ3 v ⟨i, rfl, hi, hA3, r11, r12, r13⟩
          unfold f_X6_findHolds_s48
          refine S_chk (by decide) ?_
          rw [show (0 : Int32).toNatClampNeg = 0 by decide, r13, a1]
          by_cases ci : i = (wl h).length
          · refine S_t (nI_le (by omega) (by omega)) (S_inr ?_)
            rw [ci, List.take_length] at hA3
            exact hA3
          · have hi' : i < (wl h).length := by omega
            obtain ⟨m1, m2, m3⟩ := wl_mem hi'
            have bw := hv_le (w := (wl h).getD i 0) (h := h)
            have bi : inb (nI i) 18 = true := inb_nI (by omega) (by decide)
            refine S_f (nI_ge hi' (by omega)) (S_chk bi (S_chk bi (S_chk bi (S_bn1 ?_))))
            have q := a3 i hi'
            rw [Nat.mul_zero, Nat.zero_add] at q
            rw [ix_nI (show i < 2 ^ 31 by omega), r12, q.1]
            refine S_eq (highs_eq m2) (S_bn0 ?_)
            dsimp only
            rw [r11, q.2]
            have hFi := fit_sub hi' hFs
            have eFi : FF ((wl h).getD i 0) = [mkK s (hv ((wl h).getD i 0) h) ((wl h).getD i 0) 0] := by rw [← hFF]
            rw [eFi] at hFi
            have n1 : ((1000 * nI s) + (10 * nI (hv ((wl h).getD i 0) h).toNat)) + nI ((wl h).getD i 0) = nI (mkK s (hv ((wl h).getD i 0) h) ((wl h).getD i 0) 0 / 10) := by
              rw [show (1000 : Int32) * nI s = nI (1000 * s) from pk_mul 1000 s, show (10 : Int32) * nI (hv ((wl h).getD i 0) h).toNat = nI (10 * (hv ((wl h).getD i 0) h).toNat) from pk_mul 10 _, nI_add, nI_add]
              congr 1
              unfold mkK
              omega
            have n3 : (wl h).getD i 0 / 5 = extK (mkK s (hv ((wl h).getD i 0) h) ((wl h).getD i 0) 0) := by
              unfold extK mkK
              omega
            rw [n1, n3]
            have hsin : Sin false (S0 ++ ((wl h).take i).flatMap FF ++ [mkK s (hv ((wl h).getD i 0) h) ((wl h).getD i 0) 0]) := by
              intro _ y hy
              apply hSs
              rw [← eFi, List.append_assoc, ← fm_take hi'] at hy
              rcases List.mem_append.mp hy with hy | hy
              · exact List.mem_append_left _ hy
              · obtain ⟨z, hz, hy⟩ := List.mem_flatMap.mp hy
                exact List.mem_append_right _ (List.mem_flatMap.mpr ⟨z, List.mem_of_mem_take hz, hy⟩)
            refine S_mono (keepM (dbl := false) hn hA3 hFi hsin) (fun τ4 h4 => S_inl ?_)
            refine ⟨⟨i + 1, nI_1 i, by omega, ?_, h4.2.1.trans r11, h4.2.2.1.trans r12, h4.2.2.2.trans r13⟩, ?_⟩
            · rw [fm_take hi', eFi, ← List.append_assoc]
              exact h4.1
            · dsimp only
              rw [nI_1, ix_nI (show i + 1 < 2 ^ 31 by omega)]
              omega
        · refine ⟨⟨s + 1, nI_1 s, by omega, ?_⟩, ?_⟩
          · rw [fm_take (by simpa using hs'), get4 hs', hS0, ← eW]
            exact h3
          · dsimp only
            rw [nI_1, ix_nI (show s + 1 < 2 ^ 31 by omega), ix_nI (show s < 2 ^ 31 by omega)]
            omega
  · have eS : sqs W9 O P Q = [0, 1, 2].flatMap (fun s => prs W9 s ((P : Int) - O s) ((Q : Int) - O (s + 1)) ++ prs W9 s ((Q : Int) - O s) ((P : Int) - O (s + 1))) := by
      unfold sqs
      rw [if_neg c]
    have eD : decide (Q ≠ 0) = true := by simp [c]
    have eQ : τ 4 (12 * p + n) = nI Q := by
      rw [hQ]
      unfold qI
      rw [if_neg c]
    rw [eS] at hF fin
    rw [eD] at fin ⊢
    generalize hfe : (fun s : Nat => prs W9 s ((P : Int) - O s) ((Q : Int) - O (s + 1)) ++ prs W9 s ((Q : Int) - O s) ((P : Int) - O (s + 1))) = F at hF fin
    refine S_lq1 (fun τ' v => ∃ s, v = nI s ∧ s ≤ 4 ∧ AccM (ms τ 7 n 0) n true (([0, 1, 2].take s).flatMap F) τ') (fun _ v => 4 - v.toNatClampNeg) ?_ fu _ 0 (by unfold fu; omega) ⟨0, rfl, by omega, hA0 true⟩
    rintro τ' v ⟨s, rfl, hs, hA⟩
    unfold f_X6_findHolds_s17
    have stp : ∀ τ', AccM (ms τ 7 n 0) n true (([0, 1, 2].take (s + 1)).flatMap F) τ' → s < 4 → (∃ s', nI s + 1 = nI s' ∧ s' ≤ 4 ∧ AccM (ms τ 7 n 0) n true (([0, 1, 2].take s').flatMap F) τ') ∧ 4 - (nI s + 1).toNatClampNeg < 4 - (nI s).toNatClampNeg := by
      intro τ' h hs'
      refine ⟨⟨s + 1, nI_1 s, by omega, h⟩, ?_⟩
      rw [nI_1, ix_nI (show s + 1 < 2 ^ 31 by omega), ix_nI (show s < 2 ^ 31 by omega)]
      omega
    by_cases c2 : s = 4
    · subst c2
      refine S_t (show (4 : Int32) ≤ nI 4 by decide) (S_inr (S_some (fin τ' ?_)))
      exact hA
    · have hs' : s < 4 := by omega
      have hr := rows _ _ _ hA
      refine S_f (nI_ge (a := s) (b := 4) hs' (by decide)) ?_
      rw [ix12 hp hn]
      refine S_chk (in12 hp hn) (S_t ?_ ?_)
      · rw [ix_nI (show 12 * p + n < 2 ^ 31 by omega), hr 4 (by omega), eQ]
        exact nI_pos' (by omega)
      · by_cases c3 : s = 3
        · subst c3
          refine S_t (show (3 : Int32) ≤ nI 3 by decide) (S_inl (stp τ' ?_ hs'))
          exact hA
        · have hs3 : s < 3 := by omega
          refine S_f (nI_ge (a := s) (b := 3) hs3 (by decide)) (S_chk (in12 hp hn) (S_chk (in12 hp hn) (S_bn0 ?_)))
          rw [ix_nI (show 12 * p + n < 2 ^ 31 by omega), hr 3 (by omega), hr 4 (by omega), hP, eQ]
          have hFs := fit_take (l := [0, 1, 2]) (s := s) (by simpa using hs3) hF
          rw [get3 hs3, ← hfe, ← List.append_assoc] at hFs
          refine S_mono (dblM (O := O) hn hs3 hP2 hQ2 (fun s hs => by rw [hr 1 (by omega)]; exact hO s hs) hA (by rw [← hfe]; exact hFs.left)) (fun τ1 h1 => S_chk (in12 hp hn) (S_chk (in12 hp hn) (S_bn0 ?_)))
          have hr1 := rows _ _ _ h1
          rw [hr1 3 (by omega), hr1 4 (by omega), hP, eQ]
          refine S_mono (dblM (O := O) hn hs3 hQ2 hP2 (fun s hs => by rw [hr1 1 (by omega)]; exact hO s hs) h1 (by rw [← hfe]; exact hFs)) (fun τ2 h2 => S_inl (stp τ2 ?_ hs'))
          rw [fm_take (by simpa using hs3), get3 hs3]
          rw [List.append_assoc] at h2
          rw [← hfe] at h2 ⊢
          exact h2
