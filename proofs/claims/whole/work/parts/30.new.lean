/-- f, but v at every address of l -/
def vr_up {α : Type} (f : Nat → α) (l : List Nat) (v : α) : Nat → α := fun a => if a ∈ l then v else f a
theorem vr_up_in {α : Type} {f : Nat → α} {l : List Nat} {v : α} {a : Nat} (h : a ∈ l) : vr_up f l v a = v := if_pos h
theorem vr_up_ne {α : Type} {f : Nat → α} {l : List Nat} {v : α} {a : Nat} (h : a ∉ l) : vr_up f l v a = f a := if_neg h
theorem vr_rows {L l : List Nat} {f : Nat → va_E} {e : va_E} (h : ∀ a, a ∈ l → a ∉ L) : va_pl L f ++ l.map (fun a => (a, e)) = va_pl (L ++ l) (vr_up f l e) := by
  unfold va_pl
  rw [List.map_append]
  congr 1
  · apply List.map_congr_left
    intro a ha
    rw [vr_up_ne (fun q => h a q ha)]
  · apply List.map_congr_left
    intro a ha
    rw [vr_up_in ha]
theorem vr_lay {X rows : va_W} {x : Nat × va_E} {pl : va_W} {D : va_G} {cl : List vw_C} {H : Heap} (hP : va_P D cl (((X ++ pl) ++ [x]) ++ rows) H) : va_P D cl ((X ++ [x]) ++ (pl ++ rows)) H := by
  rw [List.append_assoc (X ++ pl)] at hP
  have h := va_P.swap hP
  rw [← List.append_assoc X] at h
  have h2 := va_P.swap h
  rw [List.append_assoc (X ++ [x])] at h2
  exact h2
theorem vr_layD {X rows : va_W} {x : Nat × va_E} {pl : va_W} {A : Nat → Prop} (hD : va_D A (((X ++ pl) ++ [x]) ++ rows)) : va_D A ((X ++ [x]) ++ (pl ++ rows)) := by
  rw [List.append_assoc (X ++ pl)] at hD
  have h := va_D.swap hD
  rw [← List.append_assoc X] at h
  have h2 := va_D.swap h
  rw [List.append_assoc (X ++ [x])] at h2
  exact h2
section VGM
variable {p : Program} {l : Launch} {e : Env} {R : Room} {s : State} {m : MethodId} {args : Array Value} {below : List Frame} {meth : Method} {c : Code} {H : Heap} {locs : List Loc} {cells slots : Nat} {Q : State → Prop}
variable {cc : ByteArray} {pc : Nat} {ls : Array Slot} {rest : List Value} {D : va_G} {cl : List vw_C} {A : Nat → Prop} {a : Nat} {tys : List (ClassId × FieldType)} {ws : va_W} {H0 : Heap}
theorem va_mna {X : va_W} {L : List Nat} {f : Nat → va_E} {cc : ByteArray} (hexec : p.tables.exec = Jvm.exec) (hb : c.code = cc) {own : String} {index : Nat} {ty : FieldType} {cy : ClassId} (hown : s.vm.findClass own = some m.cls) (hclink : (Cond.classLink own index ("[" ++ (FieldType.array ty).toString)).before args s = true) (hover : (Cond.arrayOver (.array ty)).before args s = true) (harr : (Cond.arrayClass ty).before args s = true) (hcy : s.vm.findClass (FieldType.array ty).toString = some cy)
    (hK : va_K D cl tys s) (hP : va_P D cl (X ++ va_pl L f) H) (hD : va_D A (X ++ va_pl L f)) (hS : va_S A H0 H locs) (hA : ∀ q, H0.size ≤ q → A q) {n k : Int32} {N' K' : Nat} {z : vp_A} (hn : ¬ n < 0) (hk : ¬ k < 0) (hN : n.toNatClampNeg = N') (hM : k.toNatClampNeg = K')
    (hb1 : N' * 4 ≤ 536870912) (hb2 : K' * componentBytes ty ≤ 536870912) (hb3 : K' ≤ 536870912) (hdf : fits ty (defaultValue ty) = true) (hcells : cells + (1 + N') ≤ R.cells) (hslots : slots + (N' + N' * K') ≤ R.slots) (hz : ∀ c : ClassId, ({ cls := c, slots := Array.replicate K' (defaultValue ty) } : Cell) = vp_cell c z) (hdg : decode cc pc = .ok (.multianewarray index 2, 4))
    (kk : ∀ (q : Nat) (r : Nat → Nat) (cA : ClassId) (H1 : Heap), (∀ i j : Nat, i < N' → j < N' → r i = r j → i = j) → (∀ i : Nat, i < N' → r i ∉ L) → va_K D cl (tys ++ [(cA, .array ty)]) s →
      va_P D cl ((X ++ [(q, .inl (cA, N', .inr (.inr (.inr (.inr (fun i => if i < N' then some (r i) else none))))))]) ++ va_pl (L ++ (List.range N').map r) (vr_up f ((List.range N').map r) (.inl (cy, z)))) H1 → va_D A ((X ++ [(q, .inl (cA, N', .inr (.inr (.inr (.inr (fun i => if i < N' then some (r i) else none))))))]) ++ va_pl (L ++ (List.range N').map r) (vr_up f ((List.range N').map r) (.inl (cy, z)))) → va_S A H0 H1 locs →
      W p l e R s m args below meth c H1 locs (cells + 1 + N') (slots + N' + N' * K') Q (F0 m (pc + 4) ls (.ref q :: rest))) : W p l e R s m args below meth c H locs cells slots Q (F0 m pc ls (.int k :: .int n :: rest)) := by
  subst hN
  subst hM
  refine mw_multi hexec hb hown hclink hover harr hcy (g := F0 m pc ls (.int k :: .int n :: rest)) rfl rfl hn hk hb1 hb2 hb3 hdf hcells hslots hdg (fun cA kA cm HF fA hkA hkindA hF => ?_)
  obtain ⟨f1, f2, hold, hrow0⟩ := hF
  have f2 : HF[H.size]? = some (vp_cell cA (n.toNatClampNeg, .inr (.inr (.inr (.inr (fun i => if i < n.toNatClampNeg then some (H.size + 1 + i) else none)))))) := f2
  have hrow : ∀ j : Nat, j < n.toNatClampNeg → HF[H.size + 1 + j]? = some (vp_cell cy z) := fun j hj => (hrow0 j hj).trans (congrArg some (hz cy))
  have hlt : ∀ a, a ∈ L → a < H.size := fun a ha => by
    obtain ⟨k9, hk9⟩ := va_pl_get (X := X) (f := f) ha
    exact (hP k9 _ hk9).lt
  have hnl : ∀ i : Nat, i < n.toNatClampNeg → H.size + 1 + i ∉ L := fun i _ h => by
    have := hlt _ h
    omega
  have hnm : ∀ a, a ∈ (List.range n.toNatClampNeg).map (fun i => H.size + 1 + i) → a ∉ L := fun a ha h => by
    obtain ⟨i, -, rfl⟩ := List.mem_map.mp ha
    have := hlt _ h
    omega
  have hP0 : va_P D cl (X ++ va_pl L f) HF := hP.kept (fun k9 x hx => hold x.1 ((hP k9 x hx).lt))
  have hP1 : va_P D cl ((X ++ va_pl L f) ++ [(H.size, .inl (cA, n.toNatClampNeg, .inr (.inr (.inr (.inr (fun i => if i < n.toNatClampNeg then some (H.size + 1 + i) else none))))))]) HF := hP0.app (fun k9 x hx => by
    have h0 : k9 < 1 := (List.getElem?_eq_some_iff.mp hx).1
    rw [show k9 = 0 by omega] at hx
    cases hx
    exact f2)
  have hP2 : va_P D cl (((X ++ va_pl L f) ++ [(H.size, .inl (cA, n.toNatClampNeg, .inr (.inr (.inr (.inr (fun i => if i < n.toNatClampNeg then some (H.size + 1 + i) else none))))))]) ++ ((List.range n.toNatClampNeg).map (fun i => H.size + 1 + i)).map (fun a => (a, .inl (cy, z)))) HF := hP1.app (fun k9 x hx => by
    obtain ⟨a, ha, rfl⟩ := List.mem_map.mp (List.mem_of_getElem? hx)
    obtain ⟨i, hi, rfl⟩ := List.mem_map.mp ha
    exact hrow i (List.mem_range.mp hi))
  have hD2 : va_D A (((X ++ va_pl L f) ++ [(H.size, .inl (cA, n.toNatClampNeg, .inr (.inr (.inr (.inr (fun i => if i < n.toNatClampNeg then some (H.size + 1 + i) else none))))))]) ++ ((List.range n.toNatClampNeg).map (fun i => H.size + 1 + i)).map (fun a => (a, .inl (cy, z)))) := by
    have hD1 := hD.push (e := .inl (cA, n.toNatClampNeg, .inr (.inr (.inr (.inr (fun i => if i < n.toNatClampNeg then some (H.size + 1 + i) else none)))))) hP rfl (hA _ hS.1)
    generalize hW1 : (X ++ va_pl L f) ++ [(H.size, .inl (cA, n.toNatClampNeg, .inr (.inr (.inr (.inr (fun i => if i < n.toNatClampNeg then some (H.size + 1 + i) else none))))))] = W1 at hD1 hP1 ⊢
    have hle : ∀ (k9 : Nat) (x : Nat × va_E), W1[k9]? = some x → x.1 ≤ H.size := fun k9 x hx => by
      rw [← hW1] at hx
      by_cases hl : k9 < (X ++ va_pl L f).length
      · rw [List.getElem?_append_left hl] at hx
        exact Nat.le_of_lt ((hP k9 x hx).lt)
      · rw [List.getElem?_append_right (by omega)] at hx
        have h0 : k9 - (X ++ va_pl L f).length < 1 := (List.getElem?_eq_some_iff.mp hx).1
        rw [show k9 - (X ++ va_pl L f).length = 0 by omega] at hx
        cases hx
        exact Nat.le_refl _
    have hr : ∀ (k9 : Nat) (x : Nat × va_E), (((List.range n.toNatClampNeg).map (fun i => H.size + 1 + i)).map (fun a => ((a, .inl (cy, z)) : Nat × va_E)))[k9]? = some x → x.1 = H.size + 1 + k9 := fun k9 x hx => by
      rw [List.getElem?_map, List.getElem?_map] at hx
      by_cases h9 : k9 < n.toNatClampNeg
      · rw [List.getElem?_range h9] at hx
        cases hx
        rfl
      · have hn0 : (List.range n.toNatClampNeg)[k9]? = none := List.getElem?_eq_none (by rw [List.length_range]; omega)
        rw [hn0] at hx
        cases hx
    refine ⟨fun i j x y hi hj hxy => ?_, fun k9 x hx => ?_⟩
    · by_cases h1 : i < W1.length <;> by_cases h2 : j < W1.length
      · rw [List.getElem?_append_left h1] at hi
        rw [List.getElem?_append_left h2] at hj
        exact hD1.1 i j x y hi hj hxy
      · rw [List.getElem?_append_left h1] at hi
        rw [List.getElem?_append_right (by omega)] at hj
        have := hle _ _ hi
        have := hr _ _ hj
        omega
      · rw [List.getElem?_append_right (by omega)] at hi
        rw [List.getElem?_append_left h2] at hj
        have := hle _ _ hj
        have := hr _ _ hi
        omega
      · rw [List.getElem?_append_right (by omega)] at hi hj
        have := hr _ _ hi
        have := hr _ _ hj
        omega
    · by_cases h1 : k9 < W1.length
      · rw [List.getElem?_append_left h1] at hx
        exact hD1.2 k9 x hx
      · rw [List.getElem?_append_right (by omega)] at hx
        have := hr _ _ hx
        exact hA _ (by have := hS.1; omega)
  have hAr : ArrOfT s cA (.array ty) := fun N9 z9 => ⟨(fun q hq => by cases hq), kA, hkA, cm, hkindA⟩
  have hK2 : va_K D cl (tys ++ [(cA, .array ty)]) s := ⟨hK.1, fun k9 x hx => by
    by_cases hl : k9 < tys.length
    · rw [List.getElem?_append_left hl] at hx
      exact hK.2 k9 x hx
    · rw [List.getElem?_append_right (by omega)] at hx
      have h0 : k9 - tys.length < 1 := (List.getElem?_eq_some_iff.mp hx).1
      rw [show k9 - tys.length = 0 by omega] at hx
      cases hx
      exact ⟨hAr, fA⟩⟩
  exact kk H.size (fun i => H.size + 1 + i) cA HF (fun i j _ _ h => by have h9 : H.size + 1 + i = H.size + 1 + j := h; omega) hnl hK2 (by rw [← vr_rows hnm]; exact vr_lay hP2) (by rw [← vr_rows hnm]; exact vr_layD hD2) ⟨by rw [f1]; have := hS.1; omega, fun x h1 h2 => (hold x (Nat.lt_of_lt_of_le h1 hS.1)).trans (hS.2.1 x h1 h2), hS.2.2⟩
end VGM
theorem wa_int : Cond.arrayClass .int ∈ TBg := List.mem_filter.mpr ⟨List.mem_append_right _ (List.mem_of_getElem? (i := 45) (by decide +kernel)), by decide +kernel⟩
def aoA (U : State) : Prop := (Cond.arrayOver (.array .int)).before #[] U = true
theorem aoA.use {U : State} {A : Array Value} (h : aoA U) : (Cond.arrayOver (.array .int)).before A U = true := h
theorem aoA.moved {u U : State} (hvm : u.vm.Alike U.vm) (h : aoA u) : aoA U := by
  unfold aoA Cond.before Cond.holds at h ⊢
  simp only [Cond.value, beq_iff_eq] at h ⊢
  rw [hvm.findClass]
  cases hc : u.vm.findClass (FieldType.array .int).toString with
  | none =>
    rw [hc] at h
    cases h
  | some comp =>
    rw [hc] at h
    simp only [Option.bind_some] at h ⊢
    rw [hvm.findIdx?_eq _ (fun k => rfl)]
    revert h
    generalize Array.findIdx? _ u.vm.classes = o9
    intro h
    cases o9 with
    | none => cases h
    | some c =>
      simp only [Option.bind_some] at h ⊢
      cases hk : u.vm.classes[c]? with
      | none =>
        rw [hk] at h
        cases h
      | some k =>
        obtain ⟨k', hk', he⟩ := hvm.2.2 _ _ hk
        rw [hk] at h
        rw [hk', he, hvm.findClass]
        exact h
theorem wi_obj : Cond.instanceMethod objectInit ∈ TBg := List.mem_filter.mpr ⟨List.mem_append_right _ (List.mem_of_getElem? (i := 15) (by decide +kernel)), by decide +kernel⟩
theorem wc_obj : Cond.code objectInit ⟨#[0xb1]⟩ 1 none ∈ TBg := List.mem_filter.mpr ⟨List.mem_append_right _ (List.mem_of_getElem? (i := 16) (by decide +kernel)), by decide +kernel⟩
theorem wcl_RX5_13 : Cond.classLink RX5 13 RX3 ∈ TBg := List.mem_filter.mpr ⟨List.mem_append_right _ (List.mem_of_getElem? (i := 17) (by decide +kernel)), by decide +kernel⟩
theorem wcl_RX3_30 : Cond.classLink RX3 30 RX0 ∈ TBg := List.mem_filter.mpr ⟨List.mem_append_right _ (List.mem_of_getElem? (i := 24) (by decide +kernel)), by decide +kernel⟩
theorem wcl_RX5_20 : Cond.classLink RX5 20 RX1 ∈ TBg := List.mem_filter.mpr ⟨List.mem_append_right _ (List.mem_of_getElem? (i := 96) (by decide +kernel)), by decide +kernel⟩
theorem wcl_RL_7 : Cond.classLink RL 7 RX5 ∈ TBg := List.mem_filter.mpr ⟨List.mem_append_right _ (List.mem_of_getElem? (i := 9) (by decide +kernel)), by decide +kernel⟩
theorem wcl_RL_10 : Cond.classLink RL 10 RX6 ∈ TBg := List.mem_filter.mpr ⟨List.mem_append_right _ (List.mem_of_getElem? (i := 406) (by decide +kernel)), by decide +kernel⟩
theorem wcl_RX1_11 : Cond.classLink RX1 11 "[[I" ∈ TBg := List.mem_filter.mpr ⟨List.mem_append_right _ (List.mem_of_getElem? (i := 102) (by decide +kernel)), by decide +kernel⟩
theorem win_RX3 : Cond.instantiable RX3 11 ∈ TBg := List.mem_filter.mpr ⟨List.mem_append_right _ (List.mem_of_getElem? (i := 19) (by decide +kernel)), by decide +kernel⟩
theorem wini_RX3 : Cond.initialized RX3 ∈ TBg := List.mem_filter.mpr ⟨List.mem_append_right _ (List.mem_of_getElem? (i := 2) (by decide +kernel)), by decide +kernel⟩
theorem wim_RX3 : Cond.instanceMethod yX3_init ∈ TBg := List.mem_filter.mpr ⟨List.mem_append_right _ (List.mem_of_getElem? (i := 21) (by decide +kernel)), by decide +kernel⟩
theorem wco_RX3 : Cond.code yX3_init cX3_init 1 none ∈ TBg := List.mem_filter.mpr ⟨List.mem_append_right _ (List.mem_of_getElem? (i := 22) (by decide +kernel)), by decide +kernel⟩
theorem win_RX0 : Cond.instantiable RX0 4 ∈ TBg := List.mem_filter.mpr ⟨List.mem_append_right _ (List.mem_of_getElem? (i := 25) (by decide +kernel)), by decide +kernel⟩
theorem wini_RX0 : Cond.initialized RX0 ∈ TBg := List.mem_filter.mpr ⟨List.mem_append_right _ (List.mem_of_getElem? (i := 3) (by decide +kernel)), by decide +kernel⟩
theorem wim_RX0 : Cond.instanceMethod yX0_init ∈ TBg := List.mem_filter.mpr ⟨List.mem_append_right _ (List.mem_of_getElem? (i := 27) (by decide +kernel)), by decide +kernel⟩
theorem wco_RX0 : Cond.code yX0_init cX0_init 1 none ∈ TBg := List.mem_filter.mpr ⟨List.mem_append_right _ (List.mem_of_getElem? (i := 28) (by decide +kernel)), by decide +kernel⟩
theorem win_RX1 : Cond.instantiable RX1 3 ∈ TBg := List.mem_filter.mpr ⟨List.mem_append_right _ (List.mem_of_getElem? (i := 97) (by decide +kernel)), by decide +kernel⟩
theorem wini_RX1 : Cond.initialized RX1 ∈ TBg := List.mem_filter.mpr ⟨List.mem_append_right _ (List.mem_of_getElem? (i := 4) (by decide +kernel)), by decide +kernel⟩
theorem wim_RX1 : Cond.instanceMethod yX1_init ∈ TBg := List.mem_filter.mpr ⟨List.mem_append_right _ (List.mem_of_getElem? (i := 99) (by decide +kernel)), by decide +kernel⟩
theorem wco_RX1 : Cond.code yX1_init cX1_init 1 none ∈ TBg := List.mem_filter.mpr ⟨List.mem_append_right _ (List.mem_of_getElem? (i := 100) (by decide +kernel)), by decide +kernel⟩
theorem win_RX5 : Cond.instantiable RX5 3 ∈ TBg := List.mem_filter.mpr ⟨List.mem_append_right _ (List.mem_of_getElem? (i := 10) (by decide +kernel)), by decide +kernel⟩
theorem wini_RX5 : Cond.initialized RX5 ∈ TBg := List.mem_filter.mpr ⟨List.mem_append_right _ (List.mem_of_getElem? (i := 1) (by decide +kernel)), by decide +kernel⟩
theorem wim_RX5 : Cond.instanceMethod yX5_init ∈ TBg := List.mem_filter.mpr ⟨List.mem_append_right _ (List.mem_of_getElem? (i := 12) (by decide +kernel)), by decide +kernel⟩
theorem wco_RX5 : Cond.code yX5_init cX5_init 1 none ∈ TBg := List.mem_filter.mpr ⟨List.mem_append_right _ (List.mem_of_getElem? (i := 13) (by decide +kernel)), by decide +kernel⟩
theorem win_RX6 : Cond.instantiable RX6 18 ∈ TBg := List.mem_filter.mpr ⟨List.mem_append_right _ (List.mem_of_getElem? (i := 407) (by decide +kernel)), by decide +kernel⟩
theorem wini_RX6 : Cond.initialized RX6 ∈ TBg := List.mem_filter.mpr ⟨List.mem_append_right _ (List.mem_of_getElem? (i := 5) (by decide +kernel)), by decide +kernel⟩
theorem wim_RX6 : Cond.instanceMethod yX6_init ∈ TBg := List.mem_filter.mpr ⟨List.mem_append_right _ (List.mem_of_getElem? (i := 409) (by decide +kernel)), by decide +kernel⟩
theorem wco_RX6 : Cond.code yX6_init cX6_init 2 none ∈ TBg := List.mem_filter.mpr ⟨List.mem_append_right _ (List.mem_of_getElem? (i := 410) (by decide +kernel)), by decide +kernel⟩
theorem uq_int {D : va_G} {cl : List vw_C} {tys : List (ClassId × FieldType)} {s : State} {t0 : Nat} {cI cA : ClassId} (hK : va_K D cl (tys ++ [(cA, .int)]) s) (ht : tys[t0]? = some (cI, .int)) : cA = cI := by
  have h1 := (hK.2 tys.length (cA, .int) (by simp)).2
  have hl : t0 < tys.length := (List.getElem?_eq_some_iff.mp ht).1
  have h2 := (hK.2 t0 (cI, .int) (by rw [List.getElem?_append_left hl]; exact ht)).2
  exact Option.some.inj (h1.symm.trans h2)
theorem uq_arr {D : va_G} {cl : List vw_C} {tys : List (ClassId × FieldType)} {s : State} {t0 : Nat} {cI cA : ClassId} (hK : va_K D cl (tys ++ [(cA, .array .int)]) s) (ht : tys[t0]? = some (cI, .array .int)) : cA = cI := by
  have h1 := (hK.2 tys.length (cA, .array .int) (by simp)).2
  have hl : t0 < tys.length := (List.getElem?_eq_some_iff.mp ht).1
  have h2 := (hK.2 t0 (cI, .array .int) (by rw [List.getElem?_append_left hl]; exact ht)).2
  exact Option.some.inj (h1.symm.trans h2)
theorem uq_obj {D : va_G} {cl : List vw_C} {tys : List (ClassId × FieldType)} {s : State} {t0 : Nat} {cI cA : ClassId} {C : String} (hK : va_K D cl (tys ++ [(cA, .object C)]) s) (ht : tys[t0]? = some (cI, .object C)) : cA = cI := by
  obtain ⟨-, -, -, -, -, h1⟩ := (hK.2 tys.length (cA, .object C) (by simp)).2
  have hl : t0 < tys.length := (List.getElem?_eq_some_iff.mp ht).1
  obtain ⟨-, -, -, -, -, h2⟩ := (hK.2 t0 (cI, .object C) (by rw [List.getElem?_append_left hl]; exact ht)).2
  exact Option.some.inj (h1.symm.trans h2)
section NW
variable {p : Program} {l : Launch} {e : Env} {R : Room} {s : State} {m : MethodId} {args : Array Value} {below : List Frame} {meth : Method} {c : Code} {H : Heap} {locs : List Loc} {cells slots : Nat} {Q : State → Prop}
variable {cc : ByteArray} {pc : Nat} {ls : Array Slot} {rest : List Value} {D : va_G} {A : Nat → Prop} {a : Nat} {tys : List (ClassId × FieldType)} {ws : va_W} {H0 : Heap} {cI cP cII : ClassId}
theorem n_newa (hx : p.tables.exec = Jvm.exec) (hb : c.code = cc) (hts : ∀ w ∈ TBg, w.before args s = true) (hK : va_K D cls5 tys s) (ht : tys[0]? = some (cI, .int)) (hP : va_P D cls5 ws H) (hD : va_D A ws) (hS : va_S A H0 H locs) (hA : ∀ q, H0.size ≤ q → A q) {n : Int32} (N' : Nat) (hn : ¬ n < 0) (hN : n.toNatClampNeg = N') (hbytes : N' * componentBytes .int ≤ 536870912) (hcells : cells + 1 ≤ R.cells) (hslots : slots + N' ≤ R.slots) (hdg : decode cc pc = .ok (.newarray .int, 2))
    (kk : ∀ (q : Nat) (H1 : Heap), va_P D cls5 (ws ++ [(q, .inl (cI, N', .inl (fun _ => 0)))]) H1 → va_D A (ws ++ [(q, .inl (cI, N', .inl (fun _ => 0)))]) → va_S A H0 H1 locs → W p l e R s m args below meth c H1 locs (cells + 1) (slots + N') Q (F0 m (pc + 2) ls (.ref q :: rest))) : W p l e R s m args below meth c H locs cells slots Q (F0 m pc ls (.int n :: rest)) := by
  refine va_newa (atype := .int) hx hb (hts _ wa_int) (ty := .int) rfl hK hP hD hS hA (a0 := (N', .inl (fun _ => 0))) (fun _ => rfl) hn hN hbytes hcells hslots hdg (fun q cA H1 hK1 hP1 hD1 hS1 => ?_)
  obtain rfl := uq_int hK1 ht
  exact kk q H1 hP1 hD1 hS1
theorem n_newq (hx : p.tables.exec = Jvm.exec) (hb : c.code = cc) (hts : ∀ w ∈ TBg, w.before args s = true) (hown : s.vm.findClass RX5 = some m.cls) (hao : va_AO "FourStrings$Part" s) (hK : va_K D cls5 tys s) (ht : tys[1]? = some (cP, .object "FourStrings$Part")) (hP : va_P D cls5 ws H) (hD : va_D A ws) (hS : va_S A H0 H locs) (hA : ∀ q, H0.size ≤ q → A q) {n : Int32} (N' : Nat) (hn : ¬ n < 0) (hN : n.toNatClampNeg = N') (hbytes : N' * 4 ≤ 536870912) (hcells : cells + 1 ≤ R.cells) (hslots : slots + N' ≤ R.slots) (hdg : decode cc pc = .ok (.anewarray 13, 3))
    (kk : ∀ (q : Nat) (H1 : Heap), va_P D cls5 (ws ++ [(q, .inl (cP, N', vR (fun _ => none)))]) H1 → va_D A (ws ++ [(q, .inl (cP, N', vR (fun _ => none)))]) → va_S A H0 H1 locs → W p l e R s m args below meth c H1 locs (cells + 1) (slots + N') Q (F0 m (pc + 3) ls (.ref q :: rest))) : W p l e R s m args below meth c H locs cells slots Q (F0 m pc ls (.int n :: rest)) := by
  refine va_newq hx hb hown (hts _ wcl_RX5_13) hao hK hP hD hS hA hn hN hbytes hcells hslots hdg (fun q cA H1 hK1 hP1 hD1 hS1 => ?_)
  obtain rfl := uq_obj hK1 ht
  exact kk q H1 hP1 hD1 hS1
theorem pl_rows {N : Nat} {r : Nat → Nat} {f : Nat → va_E} {e : va_E} : va_pl ([] ++ (List.range N).map r) (vr_up f ((List.range N).map r) e) = (List.range N).map (fun i => (r i, e)) := by
  rw [List.nil_append]
  unfold va_pl
  rw [List.map_map]
  apply List.map_congr_left
  intro a ha
  show (r a, vr_up f ((List.range N).map r) e (r a)) = (r a, e)
  rw [vr_up_in (List.mem_map.mpr ⟨a, ha, rfl⟩)]
set_option maxHeartbeats 1000000 in
theorem n_mna (hx : p.tables.exec = Jvm.exec) (hb : c.code = cc) (hts : ∀ w ∈ TBg, w.before args s = true) (hown : s.vm.findClass RX1 = some m.cls) (hao : aoA s) (hK : va_K D cls5 tys s) (ht : tys[0]? = some (cI, .int)) (ht2 : tys[2]? = some (cII, .array .int)) (hP : va_P D cls5 ws H) (hD : va_D A ws) (hS : va_S A H0 H locs) (hA : ∀ q, H0.size ≤ q → A q) (hcells : cells + (1 + 12) ≤ R.cells) (hslots : slots + (12 + 12 * 60) ≤ R.slots) (hdg : decode cc pc = .ok (.multianewarray 11 2, 4))
    (kk : ∀ (q : Nat) (r : Nat → Nat) (H1 : Heap), va_P D cls5 (ws ++ (q, .inl (cII, 12, vR (fun i => if i < 12 then some (r i) else none))) :: (List.range 12).map (fun i => (r i, .inl (cI, 60, .inl (fun _ => 0))))) H1 → va_D A (ws ++ (q, .inl (cII, 12, vR (fun i => if i < 12 then some (r i) else none))) :: (List.range 12).map (fun i => (r i, .inl (cI, 60, .inl (fun _ => 0))))) → va_S A H0 H1 locs → W p l e R s m args below meth c H1 locs (cells + 1 + 12) (slots + 12 + 12 * 60) Q (F0 m (pc + 4) ls (.ref q :: rest))) : W p l e R s m args below meth c H locs cells slots Q (F0 m pc ls (.int 60 :: .int 12 :: rest)) := by
  have hfc : s.vm.findClass (FieldType.array .int).toString = some cI := (hK.2 0 _ ht).2
  have e0 : ws ++ va_pl [] (fun _ => .inr (0, [])) = ws := List.append_nil ws
  refine va_mna (X := ws) (L := []) (f := fun _ => .inr (0, [])) (ty := .int) (cy := cI) (N' := 12) (K' := 60) (z := (60, .inl (fun _ => 0))) hx hb hown (hts _ wcl_RX1_11) (aoA.use hao) (hts _ wa_int) hfc hK (by rw [e0]; exact hP) (by rw [e0]; exact hD) hS hA (by decide) (by decide) (by decide) (by decide) (by decide) (by decide) (by decide) rfl hcells hslots (fun cz => ?_) hdg (fun q r cA H1 _ _ hK1 hP1 hD1 hS1 => ?_)
  · rw [vp_cell_i, ← arrV_new]
    rfl
  · obtain rfl := uq_arr hK1 ht2
    rw [pl_rows, List.append_assoc] at hP1 hD1
    exact kk q r H1 hP1 hD1 hS1
end NW
