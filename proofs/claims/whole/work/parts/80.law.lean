/-! ===== the law: both worlds side by side ===== -/
def mx (σ τ : Mm) : Mm := fun k => if k < 76 then σ k else τ (k - 76)
def wdL (Ad Am : Nat → Nat) (cI cP cII : ClassId) (ρ : Mm) : va_W := wdC Ad cI cP cII ρ ++ wdM Am cI (fun k => ρ (76 + k))
theorem wdL_mx {Ad Am : Nat → Nat} {cI cP cII : ClassId} {σ τ : Mm} : wdL Ad Am cI cP cII (mx σ τ) = wdC Ad cI cP cII σ ++ wdM Am cI τ := by
  unfold wdL
  have e1 : wdC Ad cI cP cII (mx σ τ) = wdC Ad cI cP cII σ := by
    unfold wdC wdG
    apply List.map_congr_left
    intro k hk
    have h : k < 76 := List.mem_range.mp hk
    show (Ad k, FC Ad cI cP cII k (mx σ τ k)) = (Ad k, FC Ad cI cP cII k (σ k))
    rw [show mx σ τ k = σ k from if_pos h]
  have e2 : (fun k => mx σ τ (76 + k)) = τ := by
    funext k
    show (if 76 + k < 76 then σ (76 + k) else τ (76 + k - 76)) = τ k
    rw [if_neg (by omega), Nat.add_sub_cancel_left]
  rw [e1, e2]
theorem wdC_len {Ad : Nat → Nat} {cI cP cII : ClassId} {σ : Mm} : (wdC Ad cI cP cII σ).length = 76 := wdG_len
def CxL (K : Kx) (Am : Nat → Nat) (cc : ByteArray) (own : String) (nL d : Nat) (rty : Option FieldType) : Prop := Cx K cc own nL d rty ∧ kwf K = wdL (kAd K) Am (kcI K) (kcP K) (kcII K) ∧ ktys K = tysC (kcI K) (kcP K) (kcII K) ∧ kSt K = StC
section LL
variable {K : Kx} {Am : Nat → Nat} {cc : ByteArray} {own : String} {nL d : Nat} {rty : Option FieldType} {σ τ : Mm} {pc : Nat} {lv : List (Nat × Value)} {st rest : List Value}
theorem gl_sp (C : CxL K Am cc own nL d rty) {H : Heap} (hP : va_P (kD K) cls5 (kwf K (mx σ τ)) H) : va_P (kD K) cls5 (wdC (kAd K) (kcI K) (kcP K) (kcII K) σ) H ∧ va_P (kD K) cls5 (wdM Am (kcI K) τ) H := by
  rw [C.2.1, wdL_mx] at hP
  refine ⟨fun k q hk => ?_, fun k q hk => ?_⟩
  · have hl := (List.getElem?_eq_some_iff.mp hk).1
    exact hP k q (by rw [List.getElem?_append_left hl]; exact hk)
  · refine hP (76 + k) q ?_
    rw [List.getElem?_append_right (by rw [wdC_len]; omega), wdC_len, Nat.add_sub_cancel_left]
    exact hk
theorem gl_D (C : CxL K Am cc own nL d rty) : va_D (kA K) (wdC (kAd K) (kcI K) (kcP K) (kcII K) σ ++ wdM Am (kcI K) τ) := by
  have h := cx_D C.1 (mx σ τ)
  rw [C.2.1, wdL_mx] at h
  exact h
theorem gl_ap (C : CxL K Am cc own nL d rty) (σ τ : Mm) {k j : Nat} {p q : Nat × va_E} (h1 : (wdC (kAd K) (kcI K) (kcP K) (kcII K) σ)[k]? = some p) (h2 : (wdM Am (kcI K) τ)[j]? = some q) : p.1 ≠ q.1 := by
  intro e
  have hl := (List.getElem?_eq_some_iff.mp h1).1
  have h := (gl_D (σ := σ) (τ := τ) C).1 k (76 + j) p q (by rw [List.getElem?_append_left hl]; exact h1) (by rw [List.getElem?_append_right (by rw [wdC_len]; omega), wdC_len, Nat.add_sub_cancel_left]; exact h2) e
  rw [wdC_len] at hl
  omega
theorem gl_DC (C : CxL K Am cc own nL d rty) (σ : Mm) : va_D (kA K) (wdC (kAd K) (kcI K) (kcP K) (kcII K) σ) := by
  have h := gl_D (σ := σ) (τ := σ) C
  refine ⟨fun i j p q hi hj e => ?_, fun k q hk => ?_⟩
  · have l1 := (List.getElem?_eq_some_iff.mp hi).1
    have l2 := (List.getElem?_eq_some_iff.mp hj).1
    exact h.1 i j p q (by rw [List.getElem?_append_left l1]; exact hi) (by rw [List.getElem?_append_left l2]; exact hj) e
  · have l1 := (List.getElem?_eq_some_iff.mp hk).1
    exact h.2 k q (by rw [List.getElem?_append_left l1]; exact hk)
theorem gl_DM (C : CxL K Am cc own nL d rty) (τ : Mm) : va_D (kA K) (wdM Am (kcI K) τ) := by
  have h := gl_D (σ := τ) (τ := τ) C
  have key : ∀ (k : Nat) (q : Nat × va_E), (wdM Am (kcI K) τ)[k]? = some q → (wdC (kAd K) (kcI K) (kcP K) (kcII K) τ ++ wdM Am (kcI K) τ)[76 + k]? = some q := fun k q hk => by
    rw [List.getElem?_append_right (by rw [wdC_len]; omega), wdC_len, Nat.add_sub_cancel_left]
    exact hk
  refine ⟨fun i j p q hi hj e => ?_, fun k q hk => h.2 _ q (key k q hk)⟩
  have := h.1 _ _ p q (key i p hi) (key j q hj) e
  omega
theorem gl_inC (C : CxL K Am cc own nL d rty) {H : Heap} {locs : List Loc} (hS : va_S (kA K) (ks K).heap H locs) : ∀ q, va_A (wdC (kAd K) (kcI K) (kcP K) (kcII K) σ) H.size q → kA K q := by
  intro q h
  rcases h with ⟨k, e, h⟩ | h
  · exact (gl_DC C σ).2 k (q, e) h
  · exact cx_A C.1 q (Nat.le_trans hS.1 h)
theorem gl_inM (C : CxL K Am cc own nL d rty) {H : Heap} {locs : List Loc} (hS : va_S (kA K) (ks K).heap H locs) : ∀ q, va_A (wdM Am (kcI K) τ) H.size q → kA K q := by
  intro q h
  rcases h with ⟨k, e, h⟩ | h
  · exact (gl_DM C τ).2 k (q, e) h
  · exact cx_A C.1 q (Nat.le_trans hS.1 h)
set_option maxHeartbeats 1000000 in
theorem gl_cC (C : CxL K Am cc own nL d rty) {y : MethodName} {bytes : ByteArray} {maxL index n d' : Nat} {ty : FieldType} {As : List Value} {σ' : Mm} {r : Int32} (hM : CtI (kl K) (kD K) (tysC (kcI K) (kcP K) (kcII K)) (wdC (kAd K) (kcI K) (kcP K) (kcII K)) StC y bytes maxL ty d' σ (.ref (kAd K 0) :: As) (σ', r)) (hm : MVok y bytes maxL (some ty) n) (hlk : Cond.methodLink own index y ∈ TBg) (hdd : d' + 1 ≤ d) (hy : y.cls = RX5) (hn : As.length = n) (hst : st = As.reverse ++ .ref (kAd K 0) :: rest) (hr : (rest.map fun v => v.category).sum ≤ 8) (hdg : decode cc pc = .ok (.invokevirtual index, 3)) (k : Gj K (mx σ' τ) (pc + 3) lv (.int r :: rest)) : Gj K (mx σ τ) pc lv st := by
  intro H locs ls hP hS hl
  obtain ⟨hPC, hPM⟩ := gl_sp C hP
  obtain ⟨m1, m2, m3, m4, m5, m6, m7⟩ := hm
  subst hst
  have hK : va_K (kD K) cls5 (tysC (kcI K) (kcP K) (kcII K)) (ks K) := by rw [← C.2.2.1]; exact cx_K C.1
  have hSt : StC (kA K) (ks K) (ks K).heap := by rw [← C.2.2.2]; exact cx_S C.1
  have hrc : ∃ cell : Cell, H[kAd K 0]? = some cell ∧ cell.vm.isStatics = false ∧ (ks K).vm.findClass y.cls = some cell.cls := by
    rw [hy]
    exact va_recv (q := (RX5, TX5, 3)) hK hPC (ci := 3) (q0 := 0) rfl (wdG_get (by decide))
  refine va_calli (va_runV (As := As) (rest := rest) ⟨cx_x C.1, cx_b C.1, cx_ml C.1, cx_own C.1, cx_ts C.1⟩ (hM H.size) ⟨cx_CB C.1 m1 m4 m5 m6 m7 hlk hdd, cx_ts C.1 _ m2, cx_ts C.1 _ m3⟩ ⟨fun a U g mk q => ?_, hrc, fun U hU hW => ⟨rfl, by rw [hU], by rw [hU]; exact hPC, va_K.moved hW.alike hK, (gl_DC C σ).weaken (fun _ _ _ _ => trivial), ?_⟩⟩ rfl hn (hl.1.trans (cx_nL C.1)) rfl (lv_room hr) hdg ⟨(cx_R C.1).2.2.1, (cx_R C.1).2.2.2⟩) hS (fun q _ h => gl_inC C hS q h) (gl_inC C hS) (fun r9 u t H1 locs1 ht hvm hw hB hz hk hS1 => ?_)
  · obtain ⟨q0, q1, qP, qK, qD, qS⟩ := q
    exact ⟨q0, q1, qP, va_K.moved (u := U) (U := U.calling g mk a) (Vm.Alike.refl U.vm) qK, qD, stOK_C.1 _ U _ _ rfl qS⟩
  · rw [hU]
    exact stOK_C.2.2.2 _ _ _ _ (gl_inC C hS) (stOK_C.2.1 _ _ _ _ hW (stOK_C.2.2.1 _ _ _ _ hS.2.1 hSt))
  · obtain ⟨rfl, rfl⟩ := hw
    refine k H1 locs1 ls ?_ hS1 hl
    rw [C.2.1, wdL_mx]
    refine va_P.app (by rw [← ht]; exact hB) (hPM.kept (fun j q hj => hk q.1 (hPM j q hj).lt ?_))
    rintro (⟨k2, e, h⟩ | h)
    · exact gl_ap C σ τ h hj rfl
    · exact absurd (hPM j q hj).lt (by omega)
set_option maxHeartbeats 1000000 in
theorem gl_cM (C : CxL K Am cc own nL d rty) {y : MethodName} {bytes : ByteArray} {maxL index n d' : Nat} {ty : FieldType} {As : List Value} {τ' : Mm} {r : Int32} (hM : CtI (kl K) (kD K) (tysM (kcI K)) (wdM Am (kcI K)) StM y bytes maxL ty d' τ (.ref (Am 0) :: As) (τ', r)) (hm : MVok y bytes maxL (some ty) n) (hlk : Cond.methodLink own index y ∈ TBg) (hdd : d' + 1 ≤ d) (hy : y.cls = RX6) (hn : As.length = n) (hst : st = As.reverse ++ .ref (Am 0) :: rest) (hr : (rest.map fun v => v.category).sum ≤ 8) (hdg : decode cc pc = .ok (.invokevirtual index, 3)) (k : Gj K (mx σ τ') (pc + 3) lv (.int r :: rest)) : Gj K (mx σ τ) pc lv st := by
  intro H locs ls hP hS hl
  obtain ⟨hPC, hPM⟩ := gl_sp C hP
  obtain ⟨m1, m2, m3, m4, m5, m6, m7⟩ := hm
  subst hst
  have hK0 : va_K (kD K) cls5 (tysC (kcI K) (kcP K) (kcII K)) (ks K) := by rw [← C.2.2.1]; exact cx_K C.1
  have hK : va_K (kD K) cls5 (tysM (kcI K)) (ks K) := hK0.sub [0] rfl
  have hrc : ∃ cell : Cell, H[Am 0]? = some cell ∧ cell.vm.isStatics = false ∧ (ks K).vm.findClass y.cls = some cell.cls := by
    rw [hy]
    exact va_recv (q := (RX6, TX6, 18)) hK hPM (ci := 4) (q0 := 0) rfl (wdG_get (by decide))
  refine va_calli (va_runV (As := As) (rest := rest) ⟨cx_x C.1, cx_b C.1, cx_ml C.1, cx_own C.1, cx_ts C.1⟩ (hM H.size) ⟨cx_CB C.1 m1 m4 m5 m6 m7 hlk hdd, cx_ts C.1 _ m2, cx_ts C.1 _ m3⟩ ⟨fun a U g mk q => ?_, hrc, fun U hU hW => ⟨rfl, by rw [hU], by rw [hU]; exact hPM, va_K.moved hW.alike hK, (gl_DM C τ).weaken (fun _ _ _ _ => trivial), trivial⟩⟩ rfl hn (hl.1.trans (cx_nL C.1)) rfl (lv_room hr) hdg ⟨(cx_R C.1).2.2.1, (cx_R C.1).2.2.2⟩) hS (fun q _ h => gl_inM C hS q h) (gl_inM C hS) (fun r9 u t H1 locs1 ht hvm hw hB hz hk hS1 => ?_)
  · obtain ⟨q0, q1, qP, qK, qD, qS⟩ := q
    exact ⟨q0, q1, qP, va_K.moved (u := U) (U := U.calling g mk a) (Vm.Alike.refl U.vm) qK, qD, trivial⟩
  · obtain ⟨rfl, rfl⟩ := hw
    refine k H1 locs1 ls ?_ hS1 hl
    rw [C.2.1, wdL_mx]
    refine va_P.app (hPC.kept (fun j q hj => hk q.1 (hPC j q hj).lt ?_)) (by rw [← ht]; exact hB)
    rintro (⟨k2, e, h⟩ | h)
    · exact gl_ap C σ τ hj h rfl
    · exact absurd (hPC j q hj).lt (by omega)
theorem g_sld (C : Cx K cc own nL d rty) {b L : Nat} {xs : Nat → Int32} (hX : va_X b L xs (ks K) (ks K).heap) (hbl : b < (ks K).heap.size) (hbA : ¬ kA K b) {i : Int32} (h : vp_in i L) (hdg : decode cc pc = .ok (.iaload, 1)) (k : Gj K σ (pc + 1) lv (.int (xs i.toNatClampNeg) :: rest)) : Gj K σ pc lv (.int i :: .ref b :: rest) := fun H locs ls hP hS hl => va_sld (cx_x C) (cx_b C) hX hbl hbA hS h hdg (k H locs ls hP hS hl)
theorem g_slen (C : Cx K cc own nL d rty) {b L : Nat} {xs : Nat → Int32} (hX : va_X b L xs (ks K) (ks K).heap) (hbl : b < (ks K).heap.size) (hbA : ¬ kA K b) (hdg : decode cc pc = .ok (.arraylength, 1)) (k : Gj K σ (pc + 1) lv (.int (nI L) :: rest)) : Gj K σ pc lv (.ref b :: rest) := fun H locs ls hP hS hl => va_slen (cx_x C) (cx_b C) hX hbl hbA hS hdg (k H locs ls hP hS hl)
end LL
def Sim_tune (Rl : Mm → Mm → Prop) : Prop := ∀ (σ τ : Mm) (a b : Int32), Rl σ τ → ∃ (σ9 τ9 : Mm) (r : Int32), f_X5_tune σ a b = some (σ9, r) ∧ f_X6_tune τ a b = some (τ9, r) ∧ Rl σ9 τ9
def Sim_note (Rl : Mm → Mm → Prop) : Prop := ∀ (σ τ : Mm) (a b c d : Int32), Rl σ τ → ∃ (σ9 τ9 : Mm) (r : Int32), f_X5_note σ a b c d = some (σ9, r) ∧ f_X6_note τ a b c d = some (τ9, r) ∧ Rl σ9 τ9
def Sim_stop (Rl : Mm → Mm → Prop) : Prop := ∀ (σ τ : Mm) (a b c : Int32), Rl σ τ → ∃ (σ9 τ9 : Mm) (r : Int32), f_X5_stop σ a b c = some (σ9, r) ∧ f_X6_stop τ a b c = some (τ9, r) ∧ Rl σ9 τ9
def Sim_mark (Rl : Mm → Mm → Prop) : Prop := ∀ (σ τ : Mm) (a b c : Int32), Rl σ τ → ∃ (σ9 τ9 : Mm) (r : Int32), f_X5_mark σ a b c = some (σ9, r) ∧ f_X6_mark τ a b c = some (τ9, r) ∧ Rl σ9 τ9
def Sim_cut (Rl : Mm → Mm → Prop) : Prop := ∀ (σ τ : Mm) (a : Int32), Rl σ τ → ∃ (σ9 τ9 : Mm) (r : Int32), f_X5_cut σ a = some (σ9, r) ∧ f_X6_cut τ a = some (τ9, r) ∧ Rl σ9 τ9
def Sim_of (Rl : Mm → Mm → Prop) : Prop := ∀ (σ τ : Mm) (a b c : Int32), Rl σ τ → ∃ (σ9 τ9 : Mm) (r : Int32), f_X5_of σ a b c = some (σ9, r) ∧ f_X6_of τ a b c = some (τ9, r) ∧ Rl σ9 τ9
def Sim_hold (Rl : Mm → Mm → Prop) : Prop := ∀ (σ τ : Mm) (a b c : Int32), Rl σ τ → ∃ (σ9 τ9 : Mm) (r : Int32), f_X5_hold σ a b c = some (σ9, r) ∧ f_X6_hold τ a b c = some (τ9, r) ∧ Rl σ9 τ9
def Sim_hard (Rl : Mm → Mm → Prop) : Prop := ∀ (σ τ : Mm) (a : Int32), Rl σ τ → ∃ (σ9 τ9 : Mm) (r : Int32), f_X5_hard σ a = some (σ9, r) ∧ f_X6_hard τ a = some (τ9, r) ∧ Rl σ9 τ9
def Sim_finger (Rl : Mm → Mm → Prop) : Prop := ∀ (σ τ : Mm) (a b c : Int32), Rl σ τ → ∃ (σ9 τ9 : Mm) (r : Int32), f_X5_finger σ a b c = some (σ9, r) ∧ f_X6_finger τ a b c = some (τ9, r) ∧ Rl σ9 τ9
def Sim_shifts (Rl : Mm → Mm → Prop) : Prop := ∀ (σ τ : Mm) (a : Int32), Rl σ τ → ∃ (σ9 τ9 : Mm) (r : Int32), f_X5_shifts σ a = some (σ9, r) ∧ f_X6_shifts τ a = some (τ9, r) ∧ Rl σ9 τ9
def Sim_bow (Rl : Mm → Mm → Prop) : Prop := ∀ (σ τ : Mm) (a b : Int32), Rl σ τ → ∃ (σ9 τ9 : Mm) (r : Int32), f_X5_bow σ a b = some (σ9, r) ∧ f_X6_bow τ a b = some (τ9, r) ∧ Rl σ9 τ9
def Sim_stroke (Rl : Mm → Mm → Prop) : Prop := ∀ (σ τ : Mm) (a b c : Int32), Rl σ τ → ∃ (σ9 τ9 : Mm) (r : Int32), f_X5_stroke σ a b c = some (σ9, r) ∧ f_X6_stroke τ a b c = some (τ9, r) ∧ Rl σ9 τ9
def Sim_strokes (Rl : Mm → Mm → Prop) : Prop := ∀ (σ τ : Mm) (a b c : Int32), Rl σ τ → ∃ (σ9 τ9 : Mm) (r : Int32), f_X5_strokes σ a b c = some (σ9, r) ∧ f_X6_strokes τ a b c = some (τ9, r) ∧ Rl σ9 τ9
def Sim_alike (Rl : Mm → Mm → Prop) : Prop := ∀ (σ τ : Mm) (a b c d : Int32), Rl σ τ → ∃ (σ9 τ9 : Mm) (r : Int32), f_X5_alike σ a b c d = some (σ9, r) ∧ f_X6_alike τ a b c d = some (τ9, r) ∧ Rl σ9 τ9
def Sim_union (Rl : Mm → Mm → Prop) : Prop := ∀ (σ τ : Mm) (a : Int32), Rl σ τ → ∃ (σ9 τ9 : Mm) (r : Int32), f_X5_union σ a = some (σ9, r) ∧ f_X6_union τ a = some (τ9, r) ∧ Rl σ9 τ9
def Sim_many (Rl : Mm → Mm → Prop) : Prop := ∀ (σ τ : Mm) (a : Int32), Rl σ τ → ∃ (σ9 τ9 : Mm) (r : Int32), f_X5_many σ a = some (σ9, r) ∧ f_X6_many τ a = some (τ9, r) ∧ Rl σ9 τ9
def SimOK (Rl : Mm → Mm → Prop) : Prop := Sim_tune Rl ∧ Sim_note Rl ∧ Sim_stop Rl ∧ Sim_mark Rl ∧ Sim_cut Rl ∧ Sim_of Rl ∧ Sim_hold Rl ∧ Sim_hard Rl ∧ Sim_finger Rl ∧ Sim_shifts Rl ∧ Sim_bow Rl ∧ Sim_stroke Rl ∧ Sim_strokes Rl ∧ Sim_alike Rl ∧ Sim_union Rl ∧ Sim_many Rl
theorem law_le {L j : Nat} (hL : L ≤ 2560) (hj : j ≤ 2565) (h : ¬ nI L - 5 < nI j) : j + 5 ≤ L := by
  rcases Nat.lt_or_ge L (j + 5) with q | q
  · exfalso
    apply h
    rw [Int32.lt_iff_toInt_lt]
    have e : (nI L - 5).toInt = (L : Int) - 5 := pk_sub_toInt (a := L) (b := 5) (by omega) (by decide)
    rw [e, nI_toInt (by omega)]
    omega
  · exact q
