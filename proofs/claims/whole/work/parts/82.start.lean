-- ===== end of PART A; then your names; then what follows =====
/-! THE CLAIM OUT OF ONE WALK OF THE LAW'S BODY. Your part is whole_start (and what it stands on); all else here is the same for every law, but numbers. -/
def R_law : String := "FourStringsLaw"
def lw_P (b : Addr) (xs : List Int32) (args : Array Value) (s : State) : Prop := args = #[.ref b] ∧ s.IntsAt b xs ∧ xs.length ≤ 2560 ∧ (Jvm.Cond.and given_1 narrow_1).before args s = true
def lw_Q (_ : Array Value) (s : State) (o : Outcome) (t : State) : Prop := o = .returned (some (.int 1)) ∧ Framed s o t [] 600000 7302250
def lw_Z (below : List Frame) (a : Array Value) (s : State) : State → Prop := fun t => ∃ o, t.status = .running ∧ Ended t below o ∧ lw_Q a s o t
/-- the law's own end, with 1 on the stack, nothing written that was there before, its room as the claim has it -/
theorem lw_ret {p : Program} {l : Launch} {e : Env} {s : State} {m : MethodId} {below : List Frame} {meth : Method} {c : Code} {b : Nat} (hx : p.tables.exec = Jvm.exec) (hb : c.code = code) (hr : meth.sig.returnType = ret) (hlocks : meth.locks = false) {pc : Nat} {H : Heap} {ls : Array Slot} (hdg : decode code pc = .ok (.ireturn, 1)) : W p l e room_1 s m #[Value.ref b] below meth c H [] 600000 7302250 (lw_Z below #[Value.ref b] s) (F0 m pc ls [.int 1]) := by
  intro T hT X
  obtain ⟨fs, hret, hrun, hended, hW, hframe⟩ := X.leave (v := some (.int 1)) (hlocks := hlocks) (fun h => by rw [hr] at h; cases h)
  have hmeth' : T.vm.method? m = some meth := X.method'
  refine ⟨T.setFrames fs, ?_, .returned (some (.int 1)), hrun, hended, rfl, ⟨_, rfl⟩, hW, hframe⟩
  jvm_step X.here [X.here.top, hx, hb, hdg, hmeth', hr, ret, narrow_b1]
  (try refine ⟨rfl, ?_⟩); (try refine ⟨rfl, ?_⟩)
  first | (intro acts; rw [hret _ acts rfl rfl rfl]) | rw [hret _ _ rfl rfl rfl]
  exact Steps.refl _
/-- what holds at the law's entry: the machine, the code, the tables' words (any of lw_tbl by 'hts w (by decide +kernel)'), the script of L ints xs at the cell b, what the Statement gives of the start (any of its parts by flat_of_before) -/
def lw_At (p : Program) (s : State) (m : MethodId) (meth : Method) (c : Code) (b L : Nat) (xs : Nat → Int32) : Prop :=
  p.tables.exec = Jvm.exec ∧ c.code = code ∧ meth.sig.returnType = ret ∧ c.maxLocals = 4 ∧ s.vm.findClass R_law = some m.cls ∧ (∀ w ∈ lw_tbl, w.before #[Value.ref b] s = true) ∧ va_X b L xs s s.heap ∧ b < s.heap.size ∧ meth.locks = false ∧ (Jvm.Cond.and given_1 narrow_1).before #[Value.ref b] s = true
theorem va_join2 {A0 : Nat → Prop} {D : va_G} {cl : List vw_C} {wA wc w1 : va_W} {H H1 : Heap} (hP : va_P D cl (wA ++ wc) H) (hD : va_D A0 (wA ++ wc)) (hk : ∀ q : Nat, q < H.size → ¬ va_A wc H.size q → H1[q]? = H[q]?) (hF : ∀ q, va_A wc H.size q → A0 q) (hP1 : va_P D cl w1 H1) (hD1 : va_D (va_A wc H.size) w1) : va_P D cl (wA ++ w1) H1 ∧ va_D A0 (wA ++ w1) := by
  have inA : ∀ (k : Nat) (q : Nat × va_E), wA[k]? = some q → (wA ++ wc)[k]? = some q := fun k q h => by
    rw [List.getElem?_append_left (List.getElem?_eq_some_iff.mp h).1]
    exact h
  have inC : ∀ (k : Nat) (q : Nat × va_E), wc[k]? = some q → (wA ++ wc)[wA.length + k]? = some q := fun k q h => by
    rw [List.getElem?_append_right (by omega), Nat.add_sub_cancel_left]
    exact h
  have apart : ∀ (k : Nat) (q : Nat × va_E), wA[k]? = some q → q.1 < H.size ∧ ¬ va_A wc H.size q.1 := by
    intro k q hq
    have hl := (hP k q (inA k q hq)).lt
    refine ⟨hl, ?_⟩
    rintro (⟨k2, e, h⟩ | h)
    · have h9 := hD.1 k (wA.length + k2) q (q.1, e) (inA k q hq) (inC k2 _ h) rfl
      have := (List.getElem?_eq_some_iff.mp hq).1
      omega
    · omega
  refine ⟨va_P.app (fun k q hq => (hP k q (inA k q hq)).kept (hk q.1 (apart k q hq).1 (apart k q hq).2)) hP1, va_D.app ⟨fun i j x y hi hj e => hD.1 i j x y (inA i x hi) (inA j y hj) e, fun k q hq => hD.2 k q (inA k q hq)⟩ (hD1.weaken (fun k q _ h => hF q.1 h)) (fun i j x y hx hy hxy => ?_)⟩
  exact (apart i x hx).2 (by rw [hxy]; exact hD1.2 j y hy)
theorem wdL_D {A : Nat → Prop} {Ad Am : Nat → Nat} {cI cP cII : ClassId} {σ τ : Mm} (h : va_D A (wdC Ad cI cP cII σ ++ wdM Am cI τ)) (ρ : Mm) : va_D A (wdL Ad Am cI cP cII ρ) := by
  have key : ∀ (k : Nat) (q : Nat × va_E), (wdL Ad Am cI cP cII ρ)[k]? = some q → ∃ e, (wdC Ad cI cP cII σ ++ wdM Am cI τ)[k]? = some (q.1, e) := by
    intro k q hk
    unfold wdL at hk
    by_cases h1 : k < 76
    · rw [List.getElem?_append_left (by rw [wdC_len]; exact h1)] at hk
      rw [List.getElem?_append_left (by rw [wdC_len]; exact h1)]
      rw [wdC, wdG_get h1] at hk
      cases hk
      exact ⟨_, wdG_get h1⟩
    · rw [List.getElem?_append_right (by rw [wdC_len]; omega), wdC_len] at hk
      rw [List.getElem?_append_right (by rw [wdC_len]; omega), wdC_len]
      by_cases h2 : k - 76 < 18
      · rw [wdM, wdG_get h2] at hk
        cases hk
        exact ⟨_, wdG_get h2⟩
      · rw [wdM, wdG_none h2] at hk
        cases hk
  refine ⟨fun i j p q hi hj e => ?_, fun k q hk => ?_⟩
  · obtain ⟨e1, h1⟩ := key i p hi
    obtain ⟨e2, h2⟩ := key j q hj
    exact h.1 i j _ _ h1 h2 e
  · obtain ⟨e1, h1⟩ := key k q hk
    exact h.2 k (q.1, e1) h1
theorem law_st {s : State} {b : Nat} (hts0 : ∀ w ∈ lw_tbl, w.before #[Value.ref b] s = true) (hgv : (Jvm.Cond.and given_1 narrow_1).before #[Value.ref b] s = true) : StC (fun q : Nat => s.heap.size ≤ q) s s.heap := by
  have hs := flat_of_before _ hgv
  have hA : ∀ a : Nat, a < s.heap.size → ¬ (fun q : Nat => s.heap.size ≤ q) a := fun a h => Nat.not_le.mpr h
  have harr : (Cond.arrayOf (.static "FourStrings$Way" "STEPS" "[I") .int).before #[Value.ref b] s = true := hs _ (by decide +kernel)
  have hlen := va_eqt (hs (Cond.eq (.length (.static "FourStrings$Way" "STEPS" "[I")) (.int 10)) (by decide +kernel))
  have h0 := va_eqt (hs (Cond.eq (.elem (.static "FourStrings$Way" "STEPS" "[I") (.int 0)) (.int 0)) (by decide +kernel))
  have h1 := va_eqt (hs (Cond.eq (.elem (.static "FourStrings$Way" "STEPS" "[I") (.int 1)) (.int 0)) (by decide +kernel))
  have h2 := va_eqt (hs (Cond.eq (.elem (.static "FourStrings$Way" "STEPS" "[I") (.int 2)) (.int 2)) (by decide +kernel))
  have h3 := va_eqt (hs (Cond.eq (.elem (.static "FourStrings$Way" "STEPS" "[I") (.int 3)) (.int 4)) (by decide +kernel))
  have h4 := va_eqt (hs (Cond.eq (.elem (.static "FourStrings$Way" "STEPS" "[I") (.int 4)) (.int 5)) (by decide +kernel))
  have h5 := va_eqt (hs (Cond.eq (.elem (.static "FourStrings$Way" "STEPS" "[I") (.int 5)) (.int 0)) (by decide +kernel))
  have h6 := va_eqt (hs (Cond.eq (.elem (.static "FourStrings$Way" "STEPS" "[I") (.int 6)) (.int 1)) (by decide +kernel))
  have h7 := va_eqt (hs (Cond.eq (.elem (.static "FourStrings$Way" "STEPS" "[I") (.int 7)) (.int 3)) (by decide +kernel))
  have h8 := va_eqt (hs (Cond.eq (.elem (.static "FourStrings$Way" "STEPS" "[I") (.int 8)) (.int 5)) (by decide +kernel))
  have h9 := va_eqt (hs (Cond.eq (.elem (.static "FourStrings$Way" "STEPS" "[I") (.int 9)) (.int 6)) (by decide +kernel))
  obtain ⟨t, ht, hT⟩ := va_Tof (f := stepsV) (N := 10) (by decide) harr hlen (fun j hj => by
    match j, hj with
    | 0, _ => exact h0
    | 1, _ => exact h1
    | 2, _ => exact h2
    | 3, _ => exact h3
    | 4, _ => exact h4
    | 5, _ => exact h5
    | 6, _ => exact h6
    | 7, _ => exact h7
    | 8, _ => exact h8
    | 9, _ => exact h9
    | n + 10, h => omega) hA
  exact ⟨⟨t, va_Zof (hts0 _ (List.mem_append_right _ (List.mem_of_getElem? (i := 183) (by decide +kernel)))) (hts0 (.initialized "FourStrings$Way") (by decide +kernel)) ht hA, hT⟩, trivial⟩
set_option maxHeartbeats 8000000 in
set_option maxRecDepth 100000 in
theorem whole_go {p : Program} {e : Env} {s : State} {m : MethodId} {below : List Frame} {meth : Method} {c : Code} (l : Launch) {b L : Nat} {xs : Nat → Int32} (hL : L ≤ 2560) (C0 : lw_At p s m meth c b L xs) {Rl : Mm → Mm → Prop} (hSim : SimOK Rl) (hR0 : Rl sg0 tm0) : W p l e room_1 s m #[Value.ref b] below meth c s.heap [] 0 0 (lw_Z below #[Value.ref b] s) (entryFrame m ([Value.ref b] : List Value).toArray 4) := by
  obtain ⟨hx, hb, hr, hml, hown, hts0, hX, hbl, hlocks, hgv⟩ := id C0
  have hts : ∀ w ∈ TBg, w.before #[Value.ref b] s = true := fun w h => hts0 w (List.mem_filter.mp h).1
  have hA : ∀ q : Nat, s.heap.size ≤ q → (fun q : Nat => s.heap.size ≤ q) q := fun _ h => h
  have hbA : ¬ (fun q : Nat => s.heap.size ≤ q) b := Nat.not_le.mpr hbl
  obtain ⟨c0, iS0, hKn0⟩ := u_known (C := RX0) (T := TX0) (N := 4) (n := 4) hts iu_X0 (hts _ win_RX0)
  obtain ⟨c1, iS1, hKn1⟩ := u_known (C := RX1) (T := TX1) (N := 3) (n := 3) hts iu_X1 (hts _ win_RX1)
  obtain ⟨c2, iS2, hKn2⟩ := u_known (C := RX3) (T := TX3) (N := 11) (n := 11) hts iu_X3 (hts _ win_RX3)
  obtain ⟨c3, iS3, hKn3⟩ := u_known (C := RX5) (T := TX5) (N := 3) (n := 3) hts iu_X5 (hts _ win_RX5)
  obtain ⟨c4, iS4, hKn4⟩ := u_known (C := RX6) (T := TX6) (N := 18) (n := 18) hts iu_X6 (hts _ win_RX6)
  obtain ⟨D, hKc⟩ : ∃ D : va_G, ∀ (k : Nat) (q : vw_C), cls5[k]? = some q → u_Kn s q.1 q.2.1 q.2.2 (D.1 k) (D.2 k) := by
    refine ⟨(fun k => if k = 0 then c0 else if k = 1 then c1 else if k = 2 then c2 else if k = 3 then c3 else c4, fun k => if k = 0 then iS0 else if k = 1 then iS1 else if k = 2 then iS2 else if k = 3 then iS3 else iS4), ?_⟩
    intro k q hq
    match k, hq with
    | 0, hq => cases hq; exact hKn0
    | 1, hq => cases hq; exact hKn1
    | 2, hq => cases hq; exact hKn2
    | 3, hq => cases hq; exact hKn3
    | 4, hq => cases hq; exact hKn4
    | k + 5, hq => simp [cls5] at hq
  have hao : va_AO "FourStrings$Part" s := va_AO.of (hts0 _ (List.mem_append_right _ (List.mem_of_getElem? (i := 18) (by decide +kernel))))
  have hao2 : aoA s := by
    have h9 : (Cond.arrayOver (.array .int)).before #[Value.ref b] s = true := hts0 _ (List.mem_append_right _ (List.mem_of_getElem? (i := 103) (by decide +kernel)))
    exact h9
  obtain ⟨cI, kI, compI, fI, hkI, hkindI⟩ := Cond.arrayClass_spec (hts _ wa_int)
  obtain ⟨compP, cP, kP, f1P, -, hkP, hkindP, f2P⟩ := Cond.arrayOver_spec hao
  obtain ⟨compII, cII, kII, f1II, -, hkII, hkindII, f2II⟩ := arrayOverA_spec hao2
  have hK : va_K D cls5 (tysC cI cP cII) s := by
    refine ⟨hKc, fun k q hk => ?_⟩
    match k, hk with
    | 0, hk => cases hk; exact ⟨fun n z => ⟨fun k h => (by cases h), kI, hkI, compI, hkindI⟩, fI⟩
    | 1, hk => cases hk; exact ⟨fun n z => ⟨fun k h => (by cases h), kP, hkP, compP, hkindP⟩, kP, compP, hkP, hkindP, f1P, f2P⟩
    | 2, hk => cases hk; exact ⟨fun n z => ⟨fun k h => (by cases h), kII, hkII, compII, hkindII⟩, f2II⟩
    | k + 3, hk => simp [tysC] at hk
  have hS : va_S (fun q : Nat => s.heap.size ≤ q) s.heap s.heap [] := va_S.rf
  have hP : va_P D cls5 [] s.heap := fun k q h => by simp at h
  have hD : va_D (fun q : Nat => s.heap.size ≤ q) [] := ⟨fun i j p q h => by simp at h, fun k q h => by simp at h⟩
  have hl := lv_entry ([.ref b]) (n := 4) (Nat.le_of_ble_eq_true rfl)
  rw [lg_entry_eq]
  generalize (lg_sl ([.ref b]) ++ List.replicate (4 - (lg_sl ([.ref b])).length) Slot.unset).toArray = ls at hl ⊢
  have hl : lv_has ls 4 [(0, .ref b)] := hl
  refine va_new (ci := 3) (fs := [.null, .null, .null]) (C := RX5) (T := TX5) (N := 3) hx hb hts iu_X5 tyX5 tyX5_ok hown (hts _ wcl_RL_7) (hts _ win_RX5) (hts _ wini_RX5) hK hP hD hS hA rfl (fun j hj => by rcases (show j = 0 ∨ j = 1 ∨ j = 2 by omega) with rfl | rfl | rfl <;> rfl) (Nat.le_of_ble_eq_true rfl) (Nat.le_of_ble_eq_true rfl) dL_law_0 (fun q0 H hP hD hS => ?_)
  have hP : va_P D cls5 ([] ++ [(q0, .inr (3, [.null, .null, .null]))]) H := hP
  have hD : va_D (fun q : Nat => s.heap.size ≤ q) ([] ++ [(q0, .inr (3, [.null, .null, .null]))]) := hD
  refine lv_dup hx hb dL_law_3 rfl ?_
  have hPc := hP.sub (ws' := [(q0, .inr (3, [.null, .null, .null]))]) [0] rfl
  have hDc := hD.sub (ws' := [(q0, .inr (3, [.null, .null, .null]))]) [0] (by decide) rfl
  have hFc := va_free (wc := [(q0, .inr (3, [.null, .null, .null]))]) hD hS hA [0] rfl
  refine va_callv (va_runI (As := []) (rest := [.ref q0]) ⟨hx, hb, hml, hown, hts⟩ (n_X5_init l D cI cP cII q0 H.size) (cwI 0 hts (tb_in wco_RX5) rfl rfl rfl (hts _ wini_RX5) (hts _ wm_RL_9) (hts _ wim_RX5) rfl (by decide +kernel) ⟨Nat.le_of_ble_eq_true rfl, Nat.le_of_ble_eq_true rfl⟩) ⟨fun a U g mk q => by obtain ⟨q0, q1, qP, qK, qD, qX, qY⟩ := q; exact ⟨q0, q1, qP, va_K.moved (u := U) (U := U.calling g mk a) (Vm.Alike.refl U.vm) qK, qD, va_AO.moved (u := U) (U := U.calling g mk a) (Vm.Alike.refl U.vm) qX, aoA.moved (u := U) (U := U.calling g mk a) (Vm.Alike.refl U.vm) qY⟩, fun U hU hW => ⟨rfl, by rw [hU], by rw [hU]; exact hPc, va_K.moved hW.alike hK, hDc.weaken (fun _ _ _ _ => trivial), va_AO.moved hW.alike hao, aoA.moved hW.alike hao2⟩⟩ rfl rfl hl.1 rfl (lv_room (Nat.le_of_ble_eq_true rfl)) dL_law_4 ⟨Nat.le_of_ble_eq_true rfl, Nat.le_of_ble_eq_true rfl⟩) hS (fun q _ h => hFc q h) hFc (fun Ad t H1 locs ht hvm hw hB hz1 hk1 hS => ?_)
  obtain ⟨hP1, hD1⟩ := hB
  rw [ht] at hP1
  obtain ⟨hP7, hD7⟩ := va_join2 hP hD hk1 hFc hP1 hD1
  subst hw
  generalize H1 = H at hP7 hS ⊢
  have hP : va_P D cls5 (wd0C cI cP cII Ad) H := hP7
  have hD : va_D (fun q : Nat => s.heap.size ≤ q) (wd0C cI cP cII Ad) := hD7
  refine lv_astore_n (lv' := [(1, .ref (Ad 0)), (0, .ref b)]) hx hb dL_law_7 rfl hl (by decide) rfl (fun ls hl => ?_)
  refine va_new (ci := 4) (fs := [.null, .null, .null, .null, .null, .null, .null, .null, .null, .null, .null, .null, .null, .null, .null, .int 0, .null, .null]) (C := RX6) (T := TX6) (N := 18) hx hb hts iu_X6 tyX6 tyX6_ok hown (hts _ wcl_RL_10) (hts _ win_RX6) (hts _ wini_RX6) hK hP hD hS hA rfl (fun j hj => by rcases (show j = 0 ∨ j = 1 ∨ j = 2 ∨ j = 3 ∨ j = 4 ∨ j = 5 ∨ j = 6 ∨ j = 7 ∨ j = 8 ∨ j = 9 ∨ j = 10 ∨ j = 11 ∨ j = 12 ∨ j = 13 ∨ j = 14 ∨ j = 15 ∨ j = 16 ∨ j = 17 by omega) with rfl | rfl | rfl | rfl | rfl | rfl | rfl | rfl | rfl | rfl | rfl | rfl | rfl | rfl | rfl | rfl | rfl | rfl <;> rfl) (Nat.le_of_ble_eq_true rfl) (Nat.le_of_ble_eq_true rfl) dL_law_8 (fun q1 H hP hD hS => ?_)
  refine lv_dup hx hb dL_law_11 rfl ?_
  have hlen : (wd0C cI cP cII Ad).length = 76 := wdC_len
  have hPc : va_P D cls5 [(q1, .inr (4, [.null, .null, .null, .null, .null, .null, .null, .null, .null, .null, .null, .null, .null, .null, .null, .int 0, .null, .null]))] H := by
    intro k q hk
    have h0 : k < 1 := (List.getElem?_eq_some_iff.mp hk).1
    exact hP (76 + k) q (by rw [List.getElem?_append_right (by omega), hlen, Nat.add_sub_cancel_left]; exact hk)
  have hDc : va_D (fun q : Nat => s.heap.size ≤ q) [(q1, .inr (4, [.null, .null, .null, .null, .null, .null, .null, .null, .null, .null, .null, .null, .null, .null, .null, .int 0, .null, .null]))] := by
    refine ⟨fun i j p q hi hj _ => ?_, fun k q hk => hD.2 (76 + k) q (by rw [List.getElem?_append_right (by omega), hlen, Nat.add_sub_cancel_left]; exact hk)⟩
    have h0 : i < 1 := (List.getElem?_eq_some_iff.mp hi).1
    have h1 : j < 1 := (List.getElem?_eq_some_iff.mp hj).1
    omega
  have hFc : ∀ q, va_A [(q1, .inr (4, [.null, .null, .null, .null, .null, .null, .null, .null, .null, .null, .null, .null, .null, .null, .null, .int 0, .null, .null]))] H.size q → (fun q : Nat => s.heap.size ≤ q) q := by
    intro q h
    rcases h with ⟨k, e9, h⟩ | h
    · exact hDc.2 k (q, e9) h
    · exact Nat.le_trans hS.1 h
  refine va_callv (va_runI (As := []) (rest := [.ref q1]) ⟨hx, hb, hml, hown, hts⟩ (n_X6_init l D cI cP cII q1 H.size) (cwI 0 hts (tb_in wco_RX6) rfl rfl rfl (hts _ wini_RX6) (hts _ wm_RL_12) (hts _ wim_RX6) rfl (by decide +kernel) ⟨Nat.le_of_ble_eq_true rfl, Nat.le_of_ble_eq_true rfl⟩) ⟨fun a U g mk q => by obtain ⟨q0, q1, qP, qK, qD⟩ := q; exact ⟨q0, q1, qP, va_K.moved (u := U) (U := U.calling g mk a) (Vm.Alike.refl U.vm) qK, qD⟩, fun U hU hW => ⟨rfl, by rw [hU], by rw [hU]; exact hPc, va_K.moved hW.alike hK, hDc.weaken (fun _ _ _ _ => trivial)⟩⟩ rfl rfl hl.1 rfl (lv_room (Nat.le_of_ble_eq_true rfl)) dL_law_12 ⟨Nat.le_of_ble_eq_true rfl, Nat.le_of_ble_eq_true rfl⟩) hS (fun q _ h => hFc q h) hFc (fun Am t H1 locs ht hvm hw hB hz1 hk1 hS => ?_)
  obtain ⟨hP1, hD1⟩ := hB
  rw [ht] at hP1
  obtain ⟨hP7, hD7⟩ := va_join2 hP hD hk1 hFc hP1 hD1
  subst hw
  generalize H1 = H at hP7 hS ⊢
  refine lv_astore_n (lv' := [(2, .ref (Am 0)), (1, .ref (Ad 0)), (0, .ref b)]) hx hb dL_law_15 rfl hl (by decide) rfl (fun ls hl => ?_)
  refine lv_iconst (v := 0) hx hb dL_law_16 (by decide) ?_
  refine lv_istore_n (lv' := [(3, .int 0), (2, .ref (Am 0)), (1, .ref (Ad 0)), (0, .ref b)]) hx hb dL_law_17 rfl hl (by decide) rfl (fun ls hl => ?_)
  refine W.widen (k := 600000) (n := 7302250) (Nat.le_of_ble_eq_true rfl) (Nat.le_of_ble_eq_true rfl) ?_
  have C : CxL (p, l, e, room_1, s, m, #[Value.ref b], below, meth, c, lw_Z below #[Value.ref b] s, D, tysC cI cP cII, (fun q : Nat => s.heap.size ≤ q), 4, (fun v _ => v = some (.int 1)), wdL Ad Am cI cP cII, Ad, cI, cP, cII, 600000, 7302250, StC) Am cL_law RL 4 10 (some .boolean) := by
    refine ⟨⟨hx, hb, hml, rfl, hown, hts, hK, wdL_D (σ := sg0) (τ := tm0) hD7, fun _ h => h, rfl, ⟨Nat.le_of_ble_eq_true rfl, Nat.le_of_ble_eq_true rfl, Nat.le_refl _, Nat.le_refl _⟩, law_st hts0 hgv, stOK_C, ?_, ?_, ?_⟩, rfl, rfl, rfl⟩
    · intro v τ H locs ls pc ty9 e1 hn hRt hP9 hS9 hdg
      have hv : v = 1 := by
        have h9 := Option.some.inj hRt
        injection h9
      subst hv
      refine va_forget (fun q hq => hS9.2.2 q hq) ?_
      exact lw_ret hx hb hr hlocks hdg
    · intro τ H locs ls pc e1
      cases e1
    · intro o τ H locs ls pc n e1
      cases e1
  exact law_loop C hX hbl hbA hL hSim (fun _ => rfl) (L + 6) 0 sg0 tm0 hR0 (by omega) (by omega) H locs ls (by show va_P D cls5 (wdL Ad Am cI cP cII (mx sg0 tm0)) H; rw [wdL_mx]; exact hP7) hS (lv_sub hl [3, 2, 1, 0] rfl)
