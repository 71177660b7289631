/-! ===== the class's holds: ways, singles, pairs ===== -/
theorem hand_aux {σ : Mm} {w ht st : Int32} {a : Int} (h0 : ¬ w = 0) (h1 : ¬ w < 1) (h9 : ¬ 10 ≤ w) (h5 : ¬ w = 5) (hin : inb w 10 = true) (es : stepsI w = st) (ea : st.toInt = a) (ha : 0 ≤ a ∧ a ≤ 10) (g1 : -1000 ≤ ht.toInt) (g2 : ht.toInt ≤ 1000) :
    ∃ r, f_X4_hand σ w ht = some (σ, r) ∧ r.toInt = if 1 ≤ ht.toInt - a ∧ ht.toInt - a ≤ 12 then ht.toInt - a else -1 := by
  have ez : (ht - st).toInt = ht.toInt - a := fb_subN rfl ea (by omega) (by omega)
  have v1 : (1 : Int32).toInt = 1 := by decide
  have v12 : (12 : Int32).toInt = 12 := by decide
  unfold f_X4_hand
  rw [if_neg h0, if_neg h1, if_neg h9, if_neg h5, chk_t hin, es]
  by_cases c1 : ht.toInt - a < 1
  · rw [if_pos (by rw [fa_lt, ez, v1]; exact c1), if_neg (by omega)]
    exact ⟨_, rfl, by decide⟩
  · rw [if_neg (by rw [fa_lt, ez, v1]; exact c1)]
    by_cases c2 : ht.toInt - a ≤ 12
    · rw [if_pos (by rw [fa_le, ez, v12]; exact c2), if_pos (by omega)]
      exact ⟨_, rfl, ez⟩
    · rw [if_neg (by rw [fa_le, ez, v12]; exact c2), if_neg (by omega)]
      exact ⟨_, rfl, by decide⟩
theorem hand_eq {σ : Mm} {w : Nat} {ht : Int32} (hw : w < 10) (g1 : -1000 ≤ ht.toInt) (g2 : ht.toInt ≤ 1000) : ∃ r, f_X4_hand σ (nI w) ht = some (σ, r) ∧ r.toInt = hv w ht.toInt := by
  have aux : ∀ (w : Nat) (a : Int), offW w = a → w ≠ 0 → w ≠ 5 → (∃ r, f_X4_hand σ (nI w) ht = some (σ, r) ∧ r.toInt = if 1 ≤ ht.toInt - a ∧ ht.toInt - a ≤ 12 then ht.toInt - a else -1) → ∃ r, f_X4_hand σ (nI w) ht = some (σ, r) ∧ r.toInt = hv w ht.toInt := by
    intro w a e h0 h5 h
    unfold hv
    rw [if_neg h0, if_neg h5, e]
    exact h
  match w, hw with
  | 0, _ =>
    unfold f_X4_hand hv
    rw [if_pos (show nI 0 = 0 from rfl), if_pos rfl]
    have v0 : (0 : Int32).toInt = 0 := by decide
    by_cases c : ht = 0
    · rw [if_pos c, if_pos (by rw [c]; exact v0)]
      exact ⟨_, rfl, v0⟩
    · rw [if_neg c, if_neg (by intro q; exact c (Int32.toInt_inj.mp (by rw [q, v0])))]
      exact ⟨_, rfl, by decide⟩
  | 1, _ => exact aux 1 0 (by decide) (by decide) (by decide) (hand_aux (st := 0) (by decide) (by decide) (by decide) (by decide) (by decide) (by decide) (by decide) (by decide) g1 g2)
  | 2, _ => exact aux 2 2 (by decide) (by decide) (by decide) (hand_aux (st := 2) (by decide) (by decide) (by decide) (by decide) (by decide) (by decide) (by decide) (by decide) g1 g2)
  | 3, _ => exact aux 3 4 (by decide) (by decide) (by decide) (hand_aux (st := 4) (by decide) (by decide) (by decide) (by decide) (by decide) (by decide) (by decide) (by decide) g1 g2)
  | 4, _ => exact aux 4 5 (by decide) (by decide) (by decide) (hand_aux (st := 5) (by decide) (by decide) (by decide) (by decide) (by decide) (by decide) (by decide) (by decide) g1 g2)
  | 5, _ =>
    unfold f_X4_hand
    rw [if_neg (show ¬ nI 5 = 0 by decide), if_neg (show ¬ nI 5 < 1 by decide), if_neg (show ¬ 10 ≤ nI 5 by decide), if_pos (show nI 5 = 5 from rfl), hv5]
    exact ⟨_, rfl, by decide⟩
  | 6, _ => exact aux 6 1 (by decide) (by decide) (by decide) (hand_aux (st := 1) (by decide) (by decide) (by decide) (by decide) (by decide) (by decide) (by decide) (by decide) g1 g2)
  | 7, _ => exact aux 7 3 (by decide) (by decide) (by decide) (hand_aux (st := 3) (by decide) (by decide) (by decide) (by decide) (by decide) (by decide) (by decide) (by decide) g1 g2)
  | 8, _ => exact aux 8 5 (by decide) (by decide) (by decide) (hand_aux (st := 5) (by decide) (by decide) (by decide) (by decide) (by decide) (by decide) (by decide) (by decide) g1 g2)
  | 9, _ => exact aux 9 6 (by decide) (by decide) (by decide) (hand_aux (st := 6) (by decide) (by decide) (by decide) (by decide) (by decide) (by decide) (by decide) (by decide) g1 g2)
  | n + 10, h => omega
/-- a hand that there is, as a number -/
theorem hand_nI {r : Int32} {z : Int} (h : r.toInt = z) (h0 : 0 ≤ z) (h1 : z ≤ 12) : r = nI z.toNat := by
  apply Int32.toInt_inj.mp
  rw [h, nI_toInt (by omega)]
  omega
theorem hand_lt {r : Int32} {z : Int} (h : r.toInt = z) : r < 0 ↔ z < 0 := by
  rw [fa_lt, h]
  have v0 : (0 : Int32).toInt = 0 := by decide
  rw [v0]
theorem make_eq {σ : Mm} {s x w g : Nat} : f_X2_make σ (nI s) (nI x) (nI w) (nI g) = some (σ, nI ((1000 * s + 10 * x + w) * 10 + g)) := by
  unfold f_X2_make
  have e : (((((1000 * nI s) + (10 * nI x)) + nI w) * 10) + nI g) = nI ((1000 * s + 10 * x + w) * 10 + g) := by
    rw [← nI_add, ← pk_mul, ← nI_add, ← nI_add, ← pk_mul, ← pk_mul]
    rfl
  rw [e]
theorem w10_take {w : Nat} (h : w < 10) : W10.take (w + 1) = W10.take w ++ [w] := by
  rcases (show w = 0 ∨ w = 1 ∨ w = 2 ∨ w = 3 ∨ w = 4 ∨ w = 5 ∨ w = 6 ∨ w = 7 ∨ w = 8 ∨ w = 9 by omega) with rfl | rfl | rfl | rfl | rfl | rfl | rfl | rfl | rfl | rfl <;> rfl
theorem fm_snoc {f : Nat → List Nat} {l : List Nat} {x : Nat} : (l ++ [x]).flatMap f = l.flatMap f ++ f x := by
  rw [List.flatMap_append, List.flatMap_cons, List.flatMap_nil, List.append_nil]
theorem mkK_lt {s w g : Nat} {x : Int} (hs : s < 4) (hw : w < 10) (hg : g < 10) (hx : x ≤ 12) : mkK s x w g < 100000 := by
  unfold mkK
  omega
theorem AccC_cast {σ0 σ : Mm} {n : Nat} {S T : List Nat} (h : AccC σ0 n S σ) (e : S = T) : AccC σ0 n T σ := e ▸ h
/-- what is added to the holds of a note must fit, and be small -/
def Fit (S : List Nat) : Prop := S.length ≤ 60 ∧ ∀ y ∈ S, y < 100000
theorem Fit.left {A B : List Nat} (h : Fit (A ++ B)) : Fit A := ⟨by have := h.1; rw [List.length_append] at this; omega, fun y hy => h.2 y (List.mem_append_left _ hy)⟩
theorem insC' {σ0 σ : Mm} {n x : Nat} {S : List Nat} (hn : n < 12) (hA : AccC σ0 n S σ) (hF : Fit (S ++ [x])) : Sat (f_X1_insert σ (nI n) (nI x)) (AccC σ0 n (S ++ [x])) :=
  insC hn hA (by have := hF.1; rw [List.length_append] at this; simp at this; omega) (hF.2 x (List.mem_append_right _ List.mem_cons_self)) (fun y hy => hF.2 y (List.mem_append_left _ hy))
theorem Fit.step {S T : List Nat} {f : Nat → List Nat} {w : Nat} (hw : w < 10) (h : Fit (S ++ W10.flatMap f)) (e : T = S ++ (W10.take w).flatMap f) : Fit (T ++ f w) := by
  have e2 : W10.flatMap f = (W10.take (w + 1)).flatMap f ++ (W10.drop (w + 1)).flatMap f := by
    rw [← List.flatMap_append, List.take_append_drop]
  rw [e2, w10_take hw, fm_snoc, ← List.append_assoc, ← List.append_assoc] at h
  rw [e]
  exact h.left
set_option maxHeartbeats 1000000 in
theorem singC {σ0 σ : Mm} {n s : Nat} {S : List Nat} {ht : Int32} (hn : n < 12) (hs : s < 4) (g1 : -1000 ≤ ht.toInt) (g2 : ht.toInt ≤ 1000) (hA : AccC σ0 n S σ) (hF : Fit (S ++ W10.flatMap (sg1 s ht.toInt))) : Sat (f_X1_listSingles σ (nI n) (nI s) ht) (AccC σ0 n (S ++ W10.flatMap (sg1 s ht.toInt))) := by
  unfold f_X1_listSingles
  refine S_bn0 ?_
  refine S_lq1 (fun σ' v => ∃ w, v = nI w ∧ w ≤ 10 ∧ AccC σ0 n (S ++ (W10.take w).flatMap (sg1 s ht.toInt)) σ') (fun _ v => 10 - v.toNatClampNeg) ?_ fu σ 0 (by unfold fu; omega) ⟨0, rfl, by omega, AccC_cast hA (by simp)⟩
  rintro σ' v ⟨w, rfl, hw, hA'⟩
  unfold f_X1_listSingles_s3
  by_cases c : w = 10
  · subst c
    refine S_t (show (10 : Int32) ≤ nI 10 by decide) (S_inr (S_some ?_))
    exact hA'
  · have hw' : w < 10 := by omega
    refine S_f (nI_ge (a := w) (b := 10) hw' (by decide)) (S_bn1 ?_)
    obtain ⟨r, e1, e2⟩ := hand_eq (σ := σ') hw' g1 g2
    refine S_eq e1 ?_
    dsimp only
    have hst := Fit.step hw' hF rfl
    have fin : ∀ σ2, AccC σ0 n (S ++ (W10.take w).flatMap (sg1 s ht.toInt) ++ sg1 s ht.toInt w) σ2 → (∃ w', nI w + 1 = nI w' ∧ w' ≤ 10 ∧ AccC σ0 n (S ++ (W10.take w').flatMap (sg1 s ht.toInt)) σ2) ∧ 10 - (nI w + 1).toNatClampNeg < 10 - (nI w).toNatClampNeg := by
      intro σ2 h2
      refine ⟨⟨w + 1, nI_1 w, by omega, ?_⟩, ?_⟩
      · rw [w10_take hw', fm_snoc, ← List.append_assoc]
        exact h2
      · rw [nI_1, ix_nI (by omega), ix_nI (by omega)]
        omega
    by_cases c2 : hv w ht.toInt < 0
    · refine S_t ((hand_lt e2).mpr c2) (S_inl ?_)
      refine fin σ' (AccC_cast hA' ?_)
      unfold sg1
      rw [if_neg (by omega), List.append_nil]
    · refine S_f (fun q => c2 ((hand_lt e2).mp q)) ?_
      rw [hand_nI e2 (by omega) hv_le.1]
      refine S_bn1 (S_eq (make_eq (g := 0)) (S_bn0 ?_))
      dsimp only
      have es : sg1 s ht.toInt w = [(1000 * s + 10 * (hv w ht.toInt).toNat + w) * 10 + 0] := by
        unfold sg1
        rw [if_pos (by omega)]
        rfl
      rw [es] at hst fin
      exact S_mono (insC' hn hA' hst) (fun σ2 h2 => S_inl (fin σ2 h2))
