/-! ===== what both programs reckon, as plain lists and numbers ===== -/
def offW (w : Nat) : Int := match w with | 2 => 2 | 3 => 4 | 4 => 5 | 6 => 1 | 7 => 3 | 8 => 5 | 9 => 6 | _ => 0
/-- the hand that has a height in a way; -1 if none has -/
def hv (w : Nat) (h : Int) : Int := if w = 0 then (if h = 0 then 0 else -1) else if w = 5 then -1 else if 1 ≤ h - offW w ∧ h - offW w ≤ 12 then h - offW w else -1
def tog (w : Nat) (x : Int) (g : Nat) (y : Int) : Bool := decide (w = 0) || decide (g = 0) || (decide (x = y) && (decide (w = g) || !decide (w % 5 = g % 5)))
def mkK (s : Nat) (x : Int) (w g : Nat) : Nat := (1000 * s + 10 * x.toNat + w) * 10 + g
def sg1 (s : Nat) (h : Int) (w : Nat) : List Nat := if 0 ≤ hv w h then [mkK s (hv w h) w 0] else []
def pr2 (s : Nat) (h1 h2 : Int) (w g : Nat) : List Nat := if 0 ≤ hv g h2 then (if tog w (hv w h1) g (hv g h2) = true then [mkK s (if hv w h1 < hv g h2 then hv g h2 else hv w h1) w g] else []) else []
def pr1 (s : Nat) (h1 h2 : Int) (W : List Nat) (w : Nat) : List Nat := if 0 ≤ hv w h1 then W.flatMap (pr2 s h1 h2 w) else []
def W10 : List Nat := [0, 1, 2, 3, 4, 5, 6, 7, 8, 9]
def W9 : List Nat := [0, 1, 6, 2, 7, 3, 8, 4, 9]
def sgs (W : List Nat) (O : Nat → Nat) (P s : Nat) : List Nat := W.flatMap (sg1 s ((P : Int) - O s))
def prs (W : List Nat) (s : Nat) (h1 h2 : Int) : List Nat := W.flatMap (pr1 s h1 h2 W)
def sqs (W : List Nat) (O : Nat → Nat) (P Q : Nat) : List Nat := if Q = 0 then [0, 1, 2, 3].flatMap (sgs W O P) else [0, 1, 2].flatMap (fun s => prs W s ((P : Int) - O s) ((Q : Int) - O (s + 1)) ++ prs W s ((Q : Int) - O s) ((P : Int) - O (s + 1)))
def Srt (l : List Nat) : Prop := l.Pairwise (· ≤ ·)
theorem srt_uniq : ∀ (a b : List Nat), Srt a → Srt b → a.Perm b → a = b
  | [], b, _, _, h => (List.nil_perm.mp h).symm
  | x :: t, b, h1, h2, h => by
    cases b with
    | nil => exact absurd h.symm (by intro q; have := q.length_eq; simp at this)
    | cons y u =>
      have e : x = y := by
        have m1 : x ∈ y :: u := h.subset (List.mem_cons_self)
        have m2 : y ∈ x :: t := h.symm.subset (List.mem_cons_self)
        have g1 : x ≤ y := by
          rcases List.mem_cons.mp m2 with q | q
          · omega
          · exact (List.pairwise_cons.mp h1).1 y q
        have g2 : y ≤ x := by
          rcases List.mem_cons.mp m1 with q | q
          · omega
          · exact (List.pairwise_cons.mp h2).1 x q
        omega
      subst e
      rw [srt_uniq t u (List.pairwise_cons.mp h1).2 (List.pairwise_cons.mp h2).2 (List.Perm.cons_inv h)]
/-- the list l with x put in at place j -/
def putL (l : List Nat) (j x : Nat) : List Nat := l.take j ++ x :: l.drop j
theorem putL_perm (l : List Nat) (j x : Nat) : (putL l j x).Perm (x :: l) := by
  unfold putL
  refine List.perm_middle.trans ?_
  rw [List.take_append_drop]
theorem putL_len {l : List Nat} {j x : Nat} : (putL l j x).length = l.length + 1 := (putL_perm l j x).length_eq
theorem putL_get {l : List Nat} {j x : Nat} (hj : j ≤ l.length) (i : Nat) : (putL l j x).getD i 0 = if i < j then l.getD i 0 else if i = j then x else l.getD (i - 1) 0 := by
  unfold putL
  have hl : (l.take j).length = j := by rw [List.length_take]; omega
  simp only [List.getD_eq_getElem?_getD]
  by_cases h1 : i < j
  · rw [if_pos h1, List.getElem?_append_left (by omega), List.getElem?_take_of_lt h1]
  · rw [if_neg h1, List.getElem?_append_right (by omega), hl]
    by_cases h2 : i = j
    · subst h2
      rw [if_pos rfl, Nat.sub_self]
      rfl
    · rw [if_neg h2]
      obtain ⟨d, hd⟩ : ∃ d, i - j = d + 1 := ⟨i - j - 1, by omega⟩
      rw [hd, List.getElem?_cons_succ, List.getElem?_drop]
      congr 2
      omega
theorem srt_get {l : List Nat} (h : Srt l) {i j : Nat} (hij : i ≤ j) (hj : j < l.length) : l.getD i 0 ≤ l.getD j 0 := by
  have hi : i < l.length := by omega
  simp only [List.getD_eq_getElem?_getD, List.getElem?_eq_getElem hi, List.getElem?_eq_getElem hj, Option.getD_some]
  rcases Nat.lt_or_ge i j with q | q
  · exact List.pairwise_iff_getElem.mp h i j hi hj q
  · have e : i = j := by omega
    subst e
    exact Nat.le_refl _
theorem srt_of {l : List Nat} (h : ∀ i j, i < j → j < l.length → l.getD i 0 ≤ l.getD j 0) : Srt l := by
  apply List.pairwise_iff_getElem.mpr
  intro i j hi hj hij
  have := h i j hij hj
  simpa only [List.getD_eq_getElem?_getD, List.getElem?_eq_getElem hi, List.getElem?_eq_getElem hj, Option.getD_some] using this
theorem putL_srt {l : List Nat} {j x : Nat} (hl : Srt l) (hj : j ≤ l.length) (h1 : j = 0 ∨ l.getD (j - 1) 0 ≤ x) (h2 : ∀ i, j ≤ i → i < l.length → x ≤ l.getD i 0) : Srt (putL l j x) := by
  apply srt_of
  intro a b hab hb
  rw [putL_len] at hb
  rw [putL_get hj, putL_get hj]
  by_cases c1 : b < j
  · rw [if_pos (by omega), if_pos c1]
    exact srt_get hl (by omega) (by omega)
  · rw [if_neg c1]
    by_cases c2 : b = j
    · rw [if_pos c2, if_pos (by omega)]
      rcases h1 with h1 | h1
      · omega
      · exact Nat.le_trans (srt_get hl (by omega) (by omega)) h1
    · rw [if_neg c2]
      by_cases c3 : a < j
      · rw [if_pos c3]
        exact srt_get hl (by omega) (by omega)
      · rw [if_neg c3]
        by_cases c4 : a = j
        · rw [if_pos c4]
          exact h2 _ (by omega) (by omega)
        · rw [if_neg c4]
          exact srt_get hl (by omega) (by omega)
/-! both orders of the ways give one list -/
theorem w_perm : W9.Perm (W10.filter (fun w => decide (w ≠ 5))) := by decide
theorem hv5 (h : Int) : hv 5 h = -1 := by
  unfold hv
  rw [if_neg (by decide), if_pos rfl]
theorem fm_perm {f : Nat → List Nat} : ∀ {a b : List Nat}, a.Perm b → (a.flatMap f).Perm (b.flatMap f) := by
  intro a b h
  induction h with
  | nil => exact List.Perm.refl _
  | cons x _ ih =>
    rw [List.flatMap_cons, List.flatMap_cons]
    exact List.Perm.append_left _ ih
  | swap x y l =>
    simp only [List.flatMap_cons]
    rw [← List.append_assoc, ← List.append_assoc]
    exact List.Perm.append_right _ List.perm_append_comm
  | trans _ _ h1 h2 => exact h1.trans h2
theorem fm_congr {f g : Nat → List Nat} : ∀ (l : List Nat), (∀ x, x ∈ l → (f x).Perm (g x)) → (l.flatMap f).Perm (l.flatMap g)
  | [], _ => List.Perm.refl _
  | x :: l, h => by
    rw [List.flatMap_cons, List.flatMap_cons]
    exact List.Perm.append (h x List.mem_cons_self) (fm_congr l (fun y hy => h y (List.mem_cons_of_mem _ hy)))
theorem fm_w {f : Nat → List Nat} (h5 : f 5 = []) : (W9.flatMap f).Perm (W10.flatMap f) := by
  refine (fm_perm w_perm).trans ?_
  have e : (W10.filter (fun w => decide (w ≠ 5))).flatMap f = W10.flatMap f := by
    show [0, 1, 2, 3, 4, 6, 7, 8, 9].flatMap f = [0, 1, 2, 3, 4, 5, 6, 7, 8, 9].flatMap f
    simp only [List.flatMap_cons, List.flatMap_nil, h5, List.nil_append]
  rw [e]
theorem sgs_w (O : Nat → Nat) (P s : Nat) : (sgs W9 O P s).Perm (sgs W10 O P s) := fm_w (by unfold sg1; rw [hv5, if_neg (by decide)])
theorem prs_w (s : Nat) (h1 h2 : Int) : (prs W9 s h1 h2).Perm (prs W10 s h1 h2) := by
  unfold prs
  refine (fm_w (by unfold pr1; rw [hv5, if_neg (by decide)])).trans ?_
  apply fm_congr
  intro w _
  unfold pr1
  by_cases h : 0 ≤ hv w h1
  · rw [if_pos h, if_pos h]
    exact fm_w (by unfold pr2; rw [hv5, if_neg (by decide)])
  · rw [if_neg h, if_neg h]
theorem sqs_w (O : Nat → Nat) (P Q : Nat) : (sqs W9 O P Q).Perm (sqs W10 O P Q) := by
  unfold sqs
  by_cases h : Q = 0
  · rw [if_pos h, if_pos h]
    exact fm_congr _ (fun s _ => sgs_w O P s)
  · rw [if_neg h, if_neg h]
    exact fm_congr _ (fun s _ => List.Perm.append (prs_w _ _ _) (prs_w _ _ _))
