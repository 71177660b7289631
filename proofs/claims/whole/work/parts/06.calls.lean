/-! ===== contracts, and calls by them ===== -/
def PreW (D : va_G) (tys : List (ClassId × FieldType)) (wf : Mm → va_W) (St : (Nat → Prop) → State → Heap → Prop) (σ : Mm) (sz : Nat) (U : State) : Prop := U.heap.size = sz ∧ va_P D cls5 (wf σ) U.heap ∧ va_K D cls5 tys U ∧ va_D (fun _ => True) (wf σ) ∧ St (va_A (wf σ) sz) U U.heap
def PosW (D : va_G) (wf : Mm → va_W) (τ : Mm) (t : State) : Prop := va_P D cls5 (wf τ) t.heap
def CtI (l : Launch) (D : va_G) (tys : List (ClassId × FieldType)) (wf : Mm → va_W) (St : (Nat → Prop) → State → Heap → Prop) (y : MethodName) (cc : ByteArray) (maxL : Nat) (ty : FieldType) (d : Nat) (σ : Mm) (args : List Value) (o : Mm × Int32) : Prop :=
  ∀ sz : Nat, Met l y (.code y cc maxL (some ty) :: TBg) (rmd d) (va_Pc args (PreW D tys wf St σ sz)) (va_Qi (fun r u => u = o.1 ∧ r = o.2) (PosW D wf) (va_A (wf σ) sz)) 0 0 (va_A (wf σ) sz)
def CtV (l : Launch) (D : va_G) (tys : List (ClassId × FieldType)) (wf : Mm → va_W) (St : (Nat → Prop) → State → Heap → Prop) (y : MethodName) (cc : ByteArray) (maxL : Nat) (d : Nat) (σ : Mm) (args : List Value) (o : Mm) : Prop :=
  ∀ sz : Nat, Met l y (.code y cc maxL none :: TBg) (rmd d) (va_Pc args (PreW D tys wf St σ sz)) (va_Qv (fun u => u = o) (PosW D wf) (va_A (wf σ) sz)) 0 0 (va_A (wf σ) sz)
def CtA (l : Launch) (D : va_G) (tys : List (ClassId × FieldType)) (wf : Mm → va_W) (St : (Nat → Prop) → State → Heap → Prop) (y : MethodName) (cc : ByteArray) (maxL : Nat) (ty : FieldType) (d : Nat) (σ : Mm) (args : List Value) (o : Mm × Option Nat) : Prop :=
  ∀ sz : Nat, Met l y (.code y cc maxL (some ty) :: TBg) (rmd d) (va_Pc args (PreW D tys wf St σ sz)) (va_Qq (fun r u => u = o.1 ∧ r = o.2) (PosW D wf) (va_A (wf σ) sz)) 0 0 (va_A (wf σ) sz)
def GiveK (K : Kx) (l : Launch) (D : va_G) (tys : List (ClassId × FieldType)) (wf : Mm → va_W) (St : (Nat → Prop) → State → Heap → Prop) (Ad : Nat → Nat) (cI cP cII : ClassId) : Prop := kl K = l ∧ kD K = D ∧ ktys K = tys ∧ kwf K = wf ∧ kSt K = St ∧ kAd K = Ad ∧ kcI K = cI ∧ kcP K = cP ∧ kcII K = cII
set_option maxHeartbeats 1000000 in
theorem metI {l : Launch} {D : va_G} {tys : List (ClassId × FieldType)} {wf : Mm → va_W} {St : (Nat → Prop) → State → Heap → Prop} {y : MethodName} {cc : ByteArray} {maxL d : Nat} {ty : FieldType} {σ : Mm} {args : List Value} {o : Mm × Int32} {Ad : Nat → Nat} {cI cP cII : ClassId} (hy : plainName y.cls = true) (hlen : (lg_sl args).length ≤ maxL) (hwf : WfOK wf) (hst : StOK St) (hty : tys[0]? = some (cI, .int))
    (hw : ∀ K : Kx, Cx K cc y.cls maxL d (some ty) → GiveK K l D tys wf St Ad cI cP cII → kRt K = (fun v τ => v = some (.int o.2) ∧ τ = o.1) → Gj K σ 0 (lv_args 0 args) []) : CtI l D tys wf St y cc maxL ty d σ args o := by
  intro sz
  refine Met.ofW (cc := cc) (maxL := maxL) (ret := some ty) hy rfl ?_
  intro p e s m args9 below meth c s₁ B hml hv
  obtain ⟨rfl, hsz, hP, hK, hD0, hSt⟩ := hv
  have hx := B.exec
  have hb := B.bytes
  have hr := B.returns
  have hts9 := atoms_spec (ws := .code y cc maxL (some ty) :: TBg) B.pre
  have hts : ∀ w ∈ TBg, w.before args.toArray s = true := fun w h => hts9 w (List.mem_cons_of_mem _ h)
  have hown : s.vm.findClass y.cls = some m.cls := findClass_of_methodNamed B.named
  have hlocks := B.notSynchronized
  subst hsz
  have hD := hD0.self (sz := s.heap.size)
  have C : Cx (p, l, e, rmd d, s, m, args.toArray, below, meth, c, MQ below (va_Qi (fun r u => u = o.1 ∧ r = o.2) (PosW D wf) (va_A (wf σ) s.heap.size)) args.toArray s 0 0 (va_A (wf σ) s.heap.size), D, tys, va_A (wf σ) s.heap.size, maxL, (fun v τ => v = some (.int o.2) ∧ τ = o.1), wf, Ad, cI, cP, cII, 0, 0, St) cc y.cls maxL d (some ty) := by
    refine ⟨hx, hb, hml, rfl, hown, hts, hK, fun τ => hwf.1 _ σ τ hD, fun q h => Or.inr h, hty, ⟨Nat.le_refl _, Nat.le_refl _, Nat.zero_le _, Nat.zero_le _⟩, hSt, hst, ?_, ?_, ?_⟩
    · intro v τ H locs ls pc ty9 e1 hn hRt hP9 hS9 hdg
      cases e1
      obtain ⟨h1, rfl⟩ := hRt
      cases h1
      exact W.zret hx hb hr hn (fun t ht hW => ⟨⟨o.2, o.1, rfl, ⟨rfl, rfl⟩, by show va_P D cls5 (wf o.1) t.heap; rw [ht]; exact hP9⟩, hS9.F ht⟩) hS9.2.2 hdg
    · intro τ H locs ls pc e1
      cases e1
    · intro a τ H locs ls pc n e1 hRt
      obtain ⟨h1, -⟩ := hRt
      cases a <;> cases h1
  rw [lg_entry_eq]
  exact hw _ C ⟨rfl, rfl, rfl, rfl, rfl, rfl, rfl, rfl, rfl⟩ rfl s.heap [] _ hP va_S.rf (lv_entry args hlen)
set_option maxHeartbeats 1000000 in
theorem metV {l : Launch} {D : va_G} {tys : List (ClassId × FieldType)} {wf : Mm → va_W} {St : (Nat → Prop) → State → Heap → Prop} {y : MethodName} {cc : ByteArray} {maxL d : Nat} {σ : Mm} {args : List Value} {o : Mm} {Ad : Nat → Nat} {cI cP cII : ClassId} (hy : plainName y.cls = true) (hlen : (lg_sl args).length ≤ maxL) (hwf : WfOK wf) (hst : StOK St) (hty : tys[0]? = some (cI, .int))
    (hw : ∀ K : Kx, Cx K cc y.cls maxL d (none) → GiveK K l D tys wf St Ad cI cP cII → kRt K = (fun v τ => v = none ∧ τ = o) → Gj K σ 0 (lv_args 0 args) []) : CtV l D tys wf St y cc maxL d σ args o := by
  intro sz
  refine Met.ofW (cc := cc) (maxL := maxL) (ret := none) hy rfl ?_
  intro p e s m args9 below meth c s₁ B hml hv
  obtain ⟨rfl, hsz, hP, hK, hD0, hSt⟩ := hv
  have hx := B.exec
  have hb := B.bytes
  have hr := B.returns
  have hts9 := atoms_spec (ws := .code y cc maxL (none) :: TBg) B.pre
  have hts : ∀ w ∈ TBg, w.before args.toArray s = true := fun w h => hts9 w (List.mem_cons_of_mem _ h)
  have hown : s.vm.findClass y.cls = some m.cls := findClass_of_methodNamed B.named
  have hlocks := B.notSynchronized
  subst hsz
  have hD := hD0.self (sz := s.heap.size)
  have C : Cx (p, l, e, rmd d, s, m, args.toArray, below, meth, c, MQ below (va_Qv (fun u => u = o) (PosW D wf) (va_A (wf σ) s.heap.size)) args.toArray s 0 0 (va_A (wf σ) s.heap.size), D, tys, va_A (wf σ) s.heap.size, maxL, (fun v τ => v = none ∧ τ = o), wf, Ad, cI, cP, cII, 0, 0, St) cc y.cls maxL d (none) := by
    refine ⟨hx, hb, hml, rfl, hown, hts, hK, fun τ => hwf.1 _ σ τ hD, fun q h => Or.inr h, hty, ⟨Nat.le_refl _, Nat.le_refl _, Nat.zero_le _, Nat.zero_le _⟩, hSt, hst, ?_, ?_, ?_⟩
    · intro v τ H locs ls pc ty9 e1
      cases e1
    · intro τ H locs ls pc e1 hRt hP9 hS9 hdg
      obtain ⟨-, rfl⟩ := hRt
      exact W.vret hx hb hr (fun t ht hW => ⟨⟨τ, rfl, rfl, by show va_P D cls5 (wf τ) t.heap; rw [ht]; exact hP9⟩, hS9.F ht⟩) hS9.2.2 hdg
    · intro a τ H locs ls pc n e1
      cases e1
  rw [lg_entry_eq]
  exact hw _ C ⟨rfl, rfl, rfl, rfl, rfl, rfl, rfl, rfl, rfl⟩ rfl s.heap [] _ hP va_S.rf (lv_entry args hlen)
set_option maxHeartbeats 1000000 in
theorem metA {l : Launch} {D : va_G} {tys : List (ClassId × FieldType)} {wf : Mm → va_W} {St : (Nat → Prop) → State → Heap → Prop} {y : MethodName} {cc : ByteArray} {maxL d : Nat} {ty : FieldType} {σ : Mm} {args : List Value} {o : Mm × Option Nat} {Ad : Nat → Nat} {cI cP cII : ClassId} (hy : plainName y.cls = true) (hlen : (lg_sl args).length ≤ maxL) (hwf : WfOK wf) (hst : StOK St) (hty : tys[0]? = some (cI, .int)) (hob : ∃ n, ty = .object n)
    (hw : ∀ K : Kx, Cx K cc y.cls maxL d (some ty) → GiveK K l D tys wf St Ad cI cP cII → kRt K = (fun v τ => v = some (va_rf o.2) ∧ τ = o.1) → Gj K σ 0 (lv_args 0 args) []) : CtA l D tys wf St y cc maxL ty d σ args o := by
  intro sz
  refine Met.ofW (cc := cc) (maxL := maxL) (ret := some ty) hy rfl ?_
  intro p e s m args9 below meth c s₁ B hml hv
  obtain ⟨rfl, hsz, hP, hK, hD0, hSt⟩ := hv
  have hx := B.exec
  have hb := B.bytes
  have hr := B.returns
  have hts9 := atoms_spec (ws := .code y cc maxL (some ty) :: TBg) B.pre
  have hts : ∀ w ∈ TBg, w.before args.toArray s = true := fun w h => hts9 w (List.mem_cons_of_mem _ h)
  have hown : s.vm.findClass y.cls = some m.cls := findClass_of_methodNamed B.named
  have hlocks := B.notSynchronized
  subst hsz
  have hD := hD0.self (sz := s.heap.size)
  have C : Cx (p, l, e, rmd d, s, m, args.toArray, below, meth, c, MQ below (va_Qq (fun r u => u = o.1 ∧ r = o.2) (PosW D wf) (va_A (wf σ) s.heap.size)) args.toArray s 0 0 (va_A (wf σ) s.heap.size), D, tys, va_A (wf σ) s.heap.size, maxL, (fun v τ => v = some (va_rf o.2) ∧ τ = o.1), wf, Ad, cI, cP, cII, 0, 0, St) cc y.cls maxL d (some ty) := by
    refine ⟨hx, hb, hml, rfl, hown, hts, hK, fun τ => hwf.1 _ σ τ hD, fun q h => Or.inr h, hty, ⟨Nat.le_refl _, Nat.le_refl _, Nat.zero_le _, Nat.zero_le _⟩, hSt, hst, ?_, ?_, ?_⟩
    · intro v τ H locs ls pc ty9 e1 hn hRt
      obtain ⟨h1, -⟩ := hRt
      exfalso
      cases ho : o.2 <;> rw [ho] at h1 <;> cases h1
    · intro τ H locs ls pc e1
      cases e1
    · intro a τ H locs ls pc n e1 hRt hP9 hS9 hdg
      obtain ⟨h1, rfl⟩ := hRt
      have h2 : va_rf a = va_rf o.2 := Option.some.inj h1
      refine W.aret hx hb hr (Or.inl hob) (by cases a; exact Or.inl rfl; exact Or.inr ⟨_, rfl⟩) (fun t ht hW => ⟨⟨o.2, o.1, ?_, ⟨rfl, rfl⟩, by show va_P D cls5 (wf o.1) t.heap; rw [ht]; exact hP9⟩, hS9.F ht⟩) hS9.2.2 hdg
      rw [h2]
  rw [lg_entry_eq]
  exact hw _ C ⟨rfl, rfl, rfl, rfl, rfl, rfl, rfl, rfl, rfl⟩ rfl s.heap [] _ hP va_S.rf (lv_entry args hlen)
def MVok (y : MethodName) (bytes : ByteArray) (maxL : Nat) (ret : Option FieldType) (n : Nat) : Prop := Cond.code y bytes maxL ret ∈ TBg ∧ Cond.instanceMethod y ∈ TBg ∧ Cond.selects y.cls y y ∈ TBg ∧ Cond.initialized y.cls ∈ TBg ∧ (y.cls ≠ "java/lang/invoke/MethodHandle" ∧ y.cls ≠ "java/lang/invoke/VarHandle") ∧ (parseMethodDescriptor y.desc).map (fun d => d.parameters.length) = some n ∧ maxL ≤ 17
def MSok (y : MethodName) (bytes : ByteArray) (maxL : Nat) (ret : Option FieldType) (n : Nat) : Prop := Cond.code y bytes maxL ret ∈ TBg ∧ Cond.static y ∈ TBg ∧ Cond.initialized y.cls ∈ TBg ∧ (y.cls ≠ "java/lang/invoke/MethodHandle" ∧ y.cls ≠ "java/lang/invoke/VarHandle") ∧ (parseMethodDescriptor y.desc).map (fun d => d.parameters.length) = some n ∧ maxL ≤ 17
theorem tb_good {w : Cond} (h : w ∈ TBg) : w ∈ TBg ∧ ((w.onTables && w.keeps) = true ∨ ∃ ty, w = .arrayClass ty) := ⟨h, good_of_word (List.mem_filter.mp h).2⟩
theorem tb_in {y : MethodName} {bytes : ByteArray} {maxL : Nat} {ret : Option FieldType} (h : Cond.code y bytes maxL ret ∈ TBg) : GoodIn TBg (.code y bytes maxL ret :: TBg) := fun w hw => by
  rcases List.mem_cons.mp hw with rfl | hw
  · exact tb_good h
  · exact tb_good hw
section FC
variable {K : Kx} {cc : ByteArray} {own : String} {nL d : Nat} {rty : Option FieldType} {σ : Mm} {pc : Nat} {lv : List (Nat × Value)} {st rest : List Value}
theorem cx_in (C : Cx K cc own nL d rty) {H : Heap} {locs : List Loc} (hS : va_S (kA K) (ks K).heap H locs) : ∀ q, va_A (kwf K σ) H.size q → kA K q := by
  intro q h
  rcases h with ⟨k, e, h⟩ | h
  · exact (cx_D C σ).2 k (q, e) h
  · exact cx_A C q (Nat.le_trans hS.1 h)
theorem cx_pre (C : Cx K cc own nL d rty) {H : Heap} {locs : List Loc} (hP : va_P (kD K) cls5 (kwf K σ) H) (hS : va_S (kA K) (ks K).heap H locs) (av : List Value) : ∀ U : State, U.heap = H → (ks K).WarmedH U.vm → va_Pc av (PreW (kD K) (ktys K) (kwf K) (kSt K) σ H.size) av.toArray U := fun U hU hW => by
  refine ⟨rfl, by rw [hU], by rw [hU]; exact hP, va_K.moved hW.alike (cx_K C), (cx_D C σ).weaken (fun _ _ _ _ => trivial), ?_⟩
  rw [hU]
  exact (cx_SO C).2.2.2 _ _ _ _ (cx_in C hS) ((cx_SO C).2.1 _ _ _ _ hW ((cx_SO C).2.2.1 _ _ _ _ hS.2.1 (cx_S C)))
theorem cx_blind (C : Cx K cc own nL d rty) {H : Heap} (av : List Value) : FrameBlind (va_Pc av (PreW (kD K) (ktys K) (kwf K) (kSt K) σ H.size)) := fun a U g mk q => by
  obtain ⟨q0, q1, qP, qK, qD, qS⟩ := q
  exact ⟨q0, q1, qP, va_K.moved (u := U) (U := U.calling g mk a) (Vm.Alike.refl U.vm) qK, qD, (cx_SO C).1 _ U _ _ rfl qS⟩
theorem cx_CB (C : Cx K cc own nL d rty) {y : MethodName} {bytes : ByteArray} {maxL index n d' : Nat} {ret : Option FieldType} (hcode : Cond.code y bytes maxL ret ∈ TBg) (hini : Cond.initialized y.cls ∈ TBg) (hc : y.cls ≠ "java/lang/invoke/MethodHandle" ∧ y.cls ≠ "java/lang/invoke/VarHandle") (hp : (parseMethodDescriptor y.desc).map (fun d => d.parameters.length) = some n) (hmL : maxL ≤ 17) (hlk : Cond.methodLink own index y ∈ TBg) (hdd : d' + 1 ≤ d) : CallB (kR K) (ks K) (kargs K) own index y bytes maxL ret (.code y bytes maxL ret :: TBg) (rmd d') 0 0 n := by
  refine callB_of n (cx_ts C) (tb_in hcode) rfl rfl rfl (cx_ts C _ hini) (cx_ts C _ hlk) ⟨hc.1, hc.2, hp⟩ ?_
  exact ⟨Nat.le_trans hdd (cx_R C).1, by have := (cx_R C).2.1; show 8 + (maxL + 11) + 36 * d' ≤ (kR K).locals; omega⟩
theorem g_cVI (C : Cx K cc own nL d rty) {y : MethodName} {bytes : ByteArray} {maxL index n d' q ci a N : Nat} {ty : FieldType} {As fs : List Value} {T : u_T} {τ : Mm} {r : Int32} (hM : CtI (kl K) (kD K) (ktys K) (kwf K) (kSt K) y bytes maxL ty d' σ (.ref a :: As) (τ, r)) (hm : MVok y bytes maxL (some ty) n) (hlk : Cond.methodLink own index y ∈ TBg) (hdd : d' + 1 ≤ d) (he : (kwf K σ)[q]? = some (a, .inr (ci, fs))) (hc : cls5[ci]? = some (y.cls, T, N)) (hn : As.length = n) (hst : st = As.reverse ++ .ref a :: rest) (hr : (rest.map fun v => v.category).sum ≤ 8) (hdg : decode cc pc = .ok (.invokevirtual index, 3)) (k : Gj K τ (pc + 3) lv (.int r :: rest)) : Gj K σ pc lv st := by
  intro H locs ls hP hS hl
  obtain ⟨m1, m2, m3, m4, m5, m6, m7⟩ := hm
  subst hst
  refine va_calli (va_runV (As := As) (rest := rest) ⟨cx_x C, cx_b C, cx_ml C, cx_own C, cx_ts C⟩ (hM H.size) ⟨cx_CB C m1 m4 m5 m6 m7 hlk hdd, cx_ts C _ m2, cx_ts C _ m3⟩ ⟨cx_blind C _, va_recv (cx_K C) hP hc he, cx_pre C hP hS _⟩ rfl hn (hl.1.trans (cx_nL C)) rfl (lv_room hr) hdg ⟨(cx_R C).2.2.1, (cx_R C).2.2.2⟩) hS (fun q _ h => cx_in C hS q h) (cx_in C hS) (fun r9 u t H1 locs1 ht hvm hw hB hz hk hS1 => ?_)
  obtain ⟨rfl, rfl⟩ := hw
  exact k H1 locs1 ls (by rw [← ht]; exact hB) hS1 hl
theorem g_cVV (C : Cx K cc own nL d rty) {y : MethodName} {bytes : ByteArray} {maxL index n d' q ci a N : Nat} {As fs : List Value} {T : u_T} {τ : Mm} (hM : CtV (kl K) (kD K) (ktys K) (kwf K) (kSt K) y bytes maxL d' σ (.ref a :: As) τ) (hm : MVok y bytes maxL (none) n) (hlk : Cond.methodLink own index y ∈ TBg) (hdd : d' + 1 ≤ d) (he : (kwf K σ)[q]? = some (a, .inr (ci, fs))) (hc : cls5[ci]? = some (y.cls, T, N)) (hn : As.length = n) (hst : st = As.reverse ++ .ref a :: rest) (hr : (rest.map fun v => v.category).sum ≤ 8) (hdg : decode cc pc = .ok (.invokevirtual index, 3)) (k : Gj K τ (pc + 3) lv rest) : Gj K σ pc lv st := by
  intro H locs ls hP hS hl
  obtain ⟨m1, m2, m3, m4, m5, m6, m7⟩ := hm
  subst hst
  refine va_callv (va_runV (As := As) (rest := rest) ⟨cx_x C, cx_b C, cx_ml C, cx_own C, cx_ts C⟩ (hM H.size) ⟨cx_CB C m1 m4 m5 m6 m7 hlk hdd, cx_ts C _ m2, cx_ts C _ m3⟩ ⟨cx_blind C _, va_recv (cx_K C) hP hc he, cx_pre C hP hS _⟩ rfl hn (hl.1.trans (cx_nL C)) rfl (lv_room hr) hdg ⟨(cx_R C).2.2.1, (cx_R C).2.2.2⟩) hS (fun q _ h => cx_in C hS q h) (cx_in C hS) (fun u t H1 locs1 ht hvm hw hB hz hk hS1 => ?_)
  subst hw
  exact k H1 locs1 ls (by rw [← ht]; exact hB) hS1 hl
theorem g_cVA (C : Cx K cc own nL d rty) {y : MethodName} {bytes : ByteArray} {maxL index n d' q ci a N : Nat} {ty : FieldType} {As fs : List Value} {T : u_T} {τ : Mm} {r : Option Nat} (hM : CtA (kl K) (kD K) (ktys K) (kwf K) (kSt K) y bytes maxL ty d' σ (.ref a :: As) (τ, r)) (hm : MVok y bytes maxL (some ty) n) (hlk : Cond.methodLink own index y ∈ TBg) (hdd : d' + 1 ≤ d) (he : (kwf K σ)[q]? = some (a, .inr (ci, fs))) (hc : cls5[ci]? = some (y.cls, T, N)) (hn : As.length = n) (hst : st = As.reverse ++ .ref a :: rest) (hr : (rest.map fun v => v.category).sum ≤ 8) (hdg : decode cc pc = .ok (.invokevirtual index, 3)) (k : Gj K τ (pc + 3) lv (va_rf r :: rest)) : Gj K σ pc lv st := by
  intro H locs ls hP hS hl
  obtain ⟨m1, m2, m3, m4, m5, m6, m7⟩ := hm
  subst hst
  refine va_callq (va_runV (As := As) (rest := rest) ⟨cx_x C, cx_b C, cx_ml C, cx_own C, cx_ts C⟩ (hM H.size) ⟨cx_CB C m1 m4 m5 m6 m7 hlk hdd, cx_ts C _ m2, cx_ts C _ m3⟩ ⟨cx_blind C _, va_recv (cx_K C) hP hc he, cx_pre C hP hS _⟩ rfl hn (hl.1.trans (cx_nL C)) rfl (lv_room hr) hdg ⟨(cx_R C).2.2.1, (cx_R C).2.2.2⟩) hS (fun q _ h => cx_in C hS q h) (cx_in C hS) (fun r9 u t H1 locs1 ht hvm hw hB hz hk hS1 => ?_)
  obtain ⟨rfl, rfl⟩ := hw
  exact k H1 locs1 ls (by rw [← ht]; exact hB) hS1 hl
theorem g_cSI (C : Cx K cc own nL d rty) {y : MethodName} {bytes : ByteArray} {maxL index n d' : Nat} {ty : FieldType} {As : List Value} {τ : Mm} {r : Int32} (hM : CtI (kl K) (kD K) (ktys K) (kwf K) (kSt K) y bytes maxL ty d' σ As (τ, r)) (hm : MSok y bytes maxL (some ty) n) (hlk : Cond.methodLink own index y ∈ TBg) (hdd : d' + 1 ≤ d) (hn : As.length = n) (hst : st = As.reverse ++ rest) (hr : (rest.map fun v => v.category).sum ≤ 8) (hdg : decode cc pc = .ok (.invokestatic index, 3)) (k : Gj K τ (pc + 3) lv (.int r :: rest)) : Gj K σ pc lv st := by
  intro H locs ls hP hS hl
  obtain ⟨m1, m2, m4, m5, m6, m7⟩ := hm
  subst hst
  refine va_calli (va_runS (As := As) (rest := rest) ⟨cx_x C, cx_b C, cx_ml C, cx_own C, cx_ts C⟩ (hM H.size) ⟨cx_CB C m1 m4 m5 m6 m7 hlk hdd, cx_ts C _ m2⟩ ⟨cx_blind C _, cx_pre C hP hS _⟩ rfl hn (hl.1.trans (cx_nL C)) rfl (lv_room hr) hdg ⟨(cx_R C).2.2.1, (cx_R C).2.2.2⟩) hS (fun q _ h => cx_in C hS q h) (cx_in C hS) (fun r9 u t H1 locs1 ht hvm hw hB hz hk hS1 => ?_)
  obtain ⟨rfl, rfl⟩ := hw
  exact k H1 locs1 ls (by rw [← ht]; exact hB) hS1 hl
theorem g_cSN (C : Cx K cc own nL d rty) {y : MethodName} {bytes : ByteArray} {maxL index n d' : Nat} {ty : FieldType} {host : String} {As : List Value} {τ : Mm} {r : Int32} (hM : CtI (kl K) (kD K) (ktys K) (kwf K) (kSt K) y bytes maxL ty d' σ As (τ, r)) (hm : MSok y bytes maxL (some ty) n) (hlk : va_Nw (.methodLinkNest own index y host) (ks K)) (hdd : d' + 1 ≤ d) (hn : As.length = n) (hst : st = As.reverse ++ rest) (hr : (rest.map fun v => v.category).sum ≤ 8) (hdg : decode cc pc = .ok (.invokestatic index, 3)) (k : Gj K τ (pc + 3) lv (.int r :: rest)) : Gj K σ pc lv st := by
  intro H locs ls hP hS hl
  obtain ⟨m1, m2, m4, m5, m6, m7⟩ := hm
  subst hst
  refine va_calli (va_runSN (As := As) (rest := rest) ⟨cx_x C, cx_b C, cx_ml C, cx_own C, cx_ts C⟩ (hM H.size) ⟨va_cnB n (cx_ts C) (tb_in m1) rfl rfl rfl hlk (cx_ts C _ m4) ⟨m5.1, m5.2, m6⟩ ⟨Nat.le_trans hdd (cx_R C).1, by have := (cx_R C).2.1; show 8 + (maxL + 11) + 36 * d' ≤ (kR K).locals; omega⟩, cx_ts C _ m2, trivial⟩ ⟨cx_blind C _, cx_pre C hP hS _⟩ rfl hn (hl.1.trans (cx_nL C)) rfl (lv_room hr) hdg ⟨(cx_R C).2.2.1, (cx_R C).2.2.2⟩) hS (fun q _ h => cx_in C hS q h) (cx_in C hS) (fun r9 u t H1 locs1 ht hvm hw hB hz hk hS1 => ?_)
  obtain ⟨rfl, rfl⟩ := hw
  exact k H1 locs1 ls (by rw [← ht]; exact hB) hS1 hl
theorem g_mmax (C : Cx K cc own nL d rty) {index : Nat} {x y : Int32} (h1 : Cond.methodLink own index Lib.Math.max.name ∈ TBg) (h2 : Cond.static Lib.Math.max.name ∈ TBg) (h3 : Cond.initialized "java/lang/Math" ∈ TBg) (h4 : Cond.code Lib.Math.max.name Lib.Math.max.code 2 (some .int) ∈ TBg) (hd : 1 ≤ d) (hr : (rest.map fun v => v.category).sum + 13 ≤ 36) (hdg : decode cc pc = .ok (.invokestatic index, 3)) (k : Gj K σ (pc + 3) lv (.int (if x < y then y else x) :: rest)) : Gj K σ pc lv (.int y :: .int x :: rest) := fun H locs ls hP hS hl => va_mmax (cx_x C) (cx_b C) ((cx_ml C).trans (hl.1.trans (cx_nL C)).symm) (cx_own C) (cx_ts C _ h1) (cx_ts C _ h2) (cx_ts C _ h3) (cx_ts C _ h4) (Nat.le_trans hd (cx_R C).1) (by have := (cx_R C).2.1; omega) (cx_R C).2.2.1 (cx_R C).2.2.2 hdg (k H locs ls hP hS hl)
theorem g_mmin (C : Cx K cc own nL d rty) {index : Nat} {x y : Int32} (h1 : Cond.methodLink own index Lib.Math.min.name ∈ TBg) (h2 : Cond.static Lib.Math.min.name ∈ TBg) (h3 : Cond.initialized "java/lang/Math" ∈ TBg) (h4 : Cond.code Lib.Math.min.name Lib.Math.min.code 2 (some .int) ∈ TBg) (hd : 1 ≤ d) (hr : (rest.map fun v => v.category).sum + 13 ≤ 36) (hdg : decode cc pc = .ok (.invokestatic index, 3)) (k : Gj K σ (pc + 3) lv (.int (if y < x then y else x) :: rest)) : Gj K σ pc lv (.int y :: .int x :: rest) := fun H locs ls hP hS hl => va_mmin (cx_x C) (cx_b C) ((cx_ml C).trans (hl.1.trans (cx_nL C)).symm) (cx_own C) (cx_ts C _ h1) (cx_ts C _ h2) (cx_ts C _ h3) (cx_ts C _ h4) (Nat.le_trans hd (cx_R C).1) (by have := (cx_R C).2.1; omega) (cx_R C).2.2.1 (cx_R C).2.2.2 hdg (k H locs ls hP hS hl)
theorem g_mabs (C : Cx K cc own nL d rty) {index : Nat} {x : Int32} (h1 : Cond.methodLink own index Lib.Math.abs.name ∈ TBg) (h2 : Cond.static Lib.Math.abs.name ∈ TBg) (h3 : Cond.initialized "java/lang/Math" ∈ TBg) (h4 : Cond.code Lib.Math.abs.name Lib.Math.abs.code 1 (some .int) ∈ TBg) (hd : 1 ≤ d) (hr : (rest.map fun v => v.category).sum + 13 ≤ 36) (hdg : decode cc pc = .ok (.invokestatic index, 3)) (k : Gj K σ (pc + 3) lv (.int (if 0 ≤ x then x else 0 - x) :: rest)) : Gj K σ pc lv (.int x :: rest) := fun H locs ls hP hS hl => va_mabs (cx_x C) (cx_b C) ((cx_ml C).trans (hl.1.trans (cx_nL C)).symm) (cx_own C) (cx_ts C _ h1) (cx_ts C _ h2) (cx_ts C _ h3) (cx_ts C _ h4) (Nat.le_trans hd (cx_R C).1) (by have := (cx_R C).2.1; omega) (cx_R C).2.2.1 (cx_R C).2.2.2 hdg (k H locs ls hP hS hl)
theorem sat_on0 {α : Type} {a : Option α} {f : Nat → Option α} {P : α → Prop} (h : Sat (onul none a f) P) : Sat a P := h
theorem sat_on1 {α : Type} {a : Option α} {f : Nat → Option α} {P : α → Prop} {k : Nat} (h : Sat (onul (some k) a f) P) : Sat (f k) P := h
theorem sat_none {α : Type} {P : α → Prop} (h : Sat (none : Option α) P) : False := by
  obtain ⟨a, h1, h2⟩ := h
  cases h1
theorem narrow_b {v : Int32} (h : (v &&& 1 == v) = true) : narrow .boolean (.int v) = .int v := by
  show Value.int (v &&& 1) = _
  rw [eq_of_beq h]
end FC
