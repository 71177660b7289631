/-- the outer array at b when its first i places are set -/
def mw_out (cA : ClassId) (N b i : Nat) : Cell := arrV cA N (fun j => va_rf (if j < i then some (b + 1 + j) else none))
/-- H' is H, behind it the outer array with i places set, behind that i rows -/
def mw_H (H : Heap) (cA : ClassId) (N : Nat) (row : Cell) (i : Nat) (H' : Heap) : Prop :=
  H'.size = H.size + 1 + i ∧ H'[H.size]? = some (mw_out cA N H.size i) ∧ (∀ x, x < H.size → H'[x]? = H[x]?) ∧ ∀ j, j < i → H'[H.size + 1 + j]? = some row
theorem mw_out_zero {cA : ClassId} {N b : Nat} : ({ cls := cA, slots := Array.replicate N .null, vm := .none } : Cell) = mw_out cA N b 0 := by
  rw [arrV_new]
  unfold mw_out
  refine congrArg (arrV cA N) (funext fun j => ?_)
  rw [if_neg (Nat.not_lt_zero j)]
  rfl
theorem mw_out_next {cA : ClassId} {N b i : Nat} : (mw_out cA N b i).setSlot i (.ref (b + 1 + i)) = mw_out cA N b (i + 1) := by
  unfold mw_out
  rw [arrV_store]
  refine congrArg (arrV cA N) (funext fun j => ?_)
  unfold updV
  by_cases h : j = i
  · rw [if_pos h, if_pos (by omega), h]
    rfl
  · rw [if_neg h]
    show va_rf (if j < i then some (b + 1 + j) else none) = _
    by_cases h2 : j < i
    · rw [if_pos h2, if_pos (by omega)]
    · rw [if_neg h2, if_neg (by omega)]
theorem mw_H_zero {T : State} {cA : ClassId} {N : Nat} {row : Cell} : mw_H T.heap cA N row 0 (T.pushCell (mw_out cA N T.heap.size 0)).heap := by
  refine ⟨by simp, State.heap_pushCell_size _ _, fun x hx => State.heap_pushCell_of_lt _ _ hx, fun j hj => absurd hj (Nat.not_lt_zero j)⟩
theorem mw_H_next {H : Heap} {T : State} {cA : ClassId} {N i : Nat} {row : Cell} (h : mw_H H cA N row i T.heap) : mw_H H cA N row (i + 1) ((T.pushCell row).setCell H.size (mw_out cA N H.size (i + 1))).heap := by
  obtain ⟨h1, h2, h3, h4⟩ := h
  have e : ((T.pushCell row).setCell H.size (mw_out cA N H.size (i + 1))).heap = (T.heap.push row).setIfInBounds H.size (mw_out cA N H.size (i + 1)) := rfl
  rw [e]
  refine ⟨by rw [Array.size_setIfInBounds, Array.size_push, h1]; omega, ?_, fun x hx => ?_, fun j hj => ?_⟩
  · rw [Array.getElem?_setIfInBounds, if_pos rfl, if_pos (by rw [Array.size_push]; omega)]
  · rw [Array.getElem?_setIfInBounds, if_neg (by omega), Array.getElem?_push, if_neg (by omega)]
    exact h3 x hx
  · rw [Array.getElem?_setIfInBounds, if_neg (by omega), Array.getElem?_push]
    by_cases hj2 : H.size + 1 + j = T.heap.size
    · rw [if_pos hj2]
    · rw [if_neg hj2]
      exact h4 j (by omega)
section MW
variable {p : Program} {l : Launch} {e : Env} {R : Room} {s : State} {m : MethodId} {args : Array Value} {below : List Frame} {meth : Method} {c : Code} {T : State} {locs : List Loc} {cells slots : Nat}
/-- an instruction of whose end a property alone is known -/
theorem mw_one {g : JFrame} {i : Instr} {len : Nat} {P Qf : State → Prop} (h : At T g.method c below) (hd : decode c.code g.pc = .ok (i, len)) (hw : wpRun (p.tables.exec i) (fun _ u _ => P u) (fun _ _ _ => False) e (T.setTop g))
    (hk : ∀ u, P u → ∃ t, (∀ acts, Steps p.tables e below (afterInstr e len (.ok () u acts)).1 t) ∧ Qf t) : ∃ t, Steps p.tables e below (T.setTop g) t ∧ Qf t := by
  have hr := (wpRun_iff_run _ _ _ _ _).mp hw
  cases hx : (p.tables.exec i).run e (T.setTop g) with
  | ok a u acts =>
    rw [hx] at hr
    obtain ⟨t, h1, h2⟩ := hk u hr
    refine ⟨t, Steps.instr h ?_, h2⟩
    rw [hd]
    refine (wpRun_iff_run _ _ _ _ _).mpr ?_
    rw [hx]
    exact h1
  | ctl x u acts =>
    rw [hx] at hr
    cases x <;> exact hr.elim
theorem mw_row {E : CtlPost} {d : Bool} {acts : List Action} {u : State} {cI cc : ClassId} {kI : Class} {ty : FieldType} {k : Int32} (hk : u.vm.classes[cI]? = some kI) (hkind : kI.kind = .array cc ty) (h0 : ¬ k < 0)
    (hlim : ¬ k.toNatClampNeg > e.platform.arrayLengthLimit) (hheap : ¬ k.toNatClampNeg * componentBytes ty > e.platform.maxHeapBytes) (hfit : fits ty (defaultValue ty) = true) (hcells : u.heap.size < e.platform.maxCells) (hslots : u.slotsUsed + k.toNatClampNeg ≤ e.platform.maxSlots) {Q : Addr → Pre}
    (hq : ∀ acts', Q u.heap.size d acts' (u.pushCell { cls := cI, slots := Array.replicate k.toNatClampNeg (defaultValue ty) })) : wp (multianewarray.make cI [k]) Q E e d acts u := by
  unfold multianewarray.make
  simp only [wp_bind', W.ite, h0, if_false, wp_pure', W.theClass, hk, Option.some.injEq, exists_eq_left', hkind]
  exact W.newArray_of hk hkind hlim hheap hcells hslots hfit hq
theorem mw_range {x i N : Nat} {rest : List Nat} (h : x :: rest = List.range' i (N - i)) : i < N ∧ x = i ∧ rest = List.range' (i + 1) (N - (i + 1)) := by
  have hlt : i < N := by
    have hlen := congrArg List.length h
    rw [List.length_range', List.length_cons] at hlen
    omega
  rw [show N - i = (N - (i + 1)) + 1 by omega, List.range'_succ] at h
  injection h with h1 h2
  exact ⟨hlt, h1, h2⟩
/-- make cA [n, k]: what it leaves is told by 'Stand' and 'mw_H' -/
theorem mw_make {E : CtlPost} {d : Bool} {acts : List Action} {g : JFrame} (X : Stand p l e R s m args below meth c T locs cells slots) {cA cI cc : ClassId} {kA kI : Class} {ty : FieldType} {n k : Int32} (hkA : T.vm.classes[cA]? = some kA) (hkindA : kA.kind = .array cI (.array ty)) (hkI : T.vm.classes[cI]? = some kI) (hkindI : kI.kind = .array cc ty)
    (hn : ¬ n < 0) (hk : ¬ k < 0) (hb1 : n.toNatClampNeg * 4 ≤ 536870912) (hb2 : k.toNatClampNeg * componentBytes ty ≤ 536870912) (hb3 : k.toNatClampNeg ≤ 536870912) (hfit : fits ty (defaultValue ty) = true)
    (hcells : cells + (1 + n.toNatClampNeg) ≤ R.cells) (hslots : slots + (n.toNatClampNeg + n.toNatClampNeg * k.toNatClampNeg) ≤ R.slots) {Q : Addr → Pre}
    (hq : ∀ (U : State) (d' : Bool) (acts' : List Action), Stand p l e R s m args below meth c U locs (cells + 1 + n.toNatClampNeg) (slots + n.toNatClampNeg + n.toNatClampNeg * k.toNatClampNeg) → mw_H T.heap cA n.toNatClampNeg { cls := cI, slots := Array.replicate k.toNatClampNeg (defaultValue ty) } n.toNatClampNeg U.heap → Q T.heap.size d' acts' (U.setTop g)) :
    wp (multianewarray.make cA [n, k]) Q E e d acts (T.setTop g) := by
  have hl1 : ¬ n.toNatClampNeg > e.platform.arrayLengthLimit := by rw [Launch.admits_arrayLengthLimit X.admits]; omega
  have hl2 : ¬ k.toNatClampNeg > e.platform.arrayLengthLimit := by rw [Launch.admits_arrayLengthLimit X.admits]; omega
  have hh1 : ¬ n.toNatClampNeg * componentBytes (.array ty) > e.platform.maxHeapBytes := by
    rw [Launch.admits_maxHeapBytes X.admits]; show ¬ n.toNatClampNeg * 4 > 536870912; omega
  have hh2 : ¬ k.toNatClampNeg * componentBytes ty > e.platform.maxHeapBytes := by rw [Launch.admits_maxHeapBytes X.admits]; omega
  have hno : ([k].find? (fun z => decide (z < 0))) = none := by simp [hk]
  obtain ⟨hr1, hr2⟩ := X.roomAbove (a := 1) (b := n.toNatClampNeg) (by omega) (by omega)
  unfold multianewarray.make
  simp only [wp_bind', W.ite, hn, if_false, wp_pure', W.theClass, State.vm_setTop, hkA, Option.some.injEq, exists_eq_left', hkindA]
  refine W.newArray_of (s := T.setTop g) hkA hkindA hl1 hh1 (by show T.heap.size < _; omega) hr2 rfl (fun acts1 => ?_)
  simp only [hno]
  rw [ite_self, wp_bind', Std.Legacy.Range.forIn_eq_forIn_range', show ([:n.toNatClampNeg] : Std.Legacy.Range).size = n.toNatClampNeg by simp [Std.Legacy.Range.size]]
  have X0 : Stand p l e R s m args below meth c (T.pushCell (mw_out cA n.toNatClampNeg T.heap.size 0)) locs (cells + 1 + 0) (slots + n.toNatClampNeg + 0 * k.toNatClampNeg) := by
    have h := X.pushed (mw_out cA n.toNatClampNeg T.heap.size 0)
    rw [show (mw_out cA n.toNatClampNeg T.heap.size 0).slots.size = n.toNatClampNeg from arrV_size _ _ _] at h
    rw [Nat.zero_mul]
    exact h
  refine wp_forIn_inv (fun rest u => ∃ (i : Nat) (U : State), i ≤ n.toNatClampNeg ∧ rest = List.range' i (n.toNatClampNeg - i) ∧ u = U.setTop g ∧ U.vm = T.vm ∧ Stand p l e R s m args below meth c U locs (cells + 1 + i) (slots + n.toNatClampNeg + i * k.toNatClampNeg) ∧ mw_H T.heap cA n.toNatClampNeg { cls := cI, slots := Array.replicate k.toNatClampNeg (defaultValue ty) } i U.heap) _ _
    ⟨0, T.pushCell (mw_out cA n.toNatClampNeg T.heap.size 0), Nat.zero_le _, rfl, by rw [← mw_out_zero]; rfl, rfl, X0, mw_H_zero⟩ ?_ ?_
  · rintro x rest u d' acts' Q' ⟨i, U, hi, hl, rfl, hvm, XU, hH⟩ hnext
    obtain ⟨hlt, rfl, hrest⟩ := mw_range hl
    have hmul : x * k.toNatClampNeg + k.toNatClampNeg ≤ n.toNatClampNeg * k.toNatClampNeg := by
      have h := Nat.mul_le_mul_right k.toNatClampNeg (show x + 1 ≤ n.toNatClampNeg from hlt)
      rw [Nat.add_mul, Nat.one_mul] at h
      exact h
    have h1 := hH.1
    obtain ⟨q1, q2⟩ := XU.roomAbove (a := 1) (b := k.toNatClampNeg) (by omega) (by omega)
    have hcell : (U.pushCell { cls := cI, slots := Array.replicate k.toNatClampNeg (defaultValue ty) }).heap[T.heap.size]? = some (mw_out cA n.toNatClampNeg T.heap.size x) := by
      rw [State.heap_pushCell_of_lt _ _ (show T.heap.size < U.heap.size by omega)]
      exact hH.2.1
    have XN : Stand p l e R s m args below meth c ((U.pushCell { cls := cI, slots := Array.replicate k.toNatClampNeg (defaultValue ty) }).setCell T.heap.size (mw_out cA n.toNatClampNeg T.heap.size (x + 1))) locs (cells + 1 + (x + 1)) (slots + n.toNatClampNeg + (x + 1) * k.toNatClampNeg) := by
      have h := ((XU.pushed { cls := cI, slots := Array.replicate k.toNatClampNeg (defaultValue ty) }).stored hcell x (.ref (T.heap.size + 1 + x))).dropFresh (fun y hy => by
        rw [List.mem_singleton.mp hy]
        exact X.heapGrown)
      rw [mw_out_next, Array.size_replicate] at h
      rw [show slots + n.toNatClampNeg + (x + 1) * k.toNatClampNeg = slots + n.toNatClampNeg + x * k.toNatClampNeg + k.toNatClampNeg by rw [Nat.add_mul, Nat.one_mul]; omega]
      exact h
    simp only [wp_bind']
    refine mw_row (u := U.setTop g) (by rw [State.vm_setTop, hvm]; exact hkI) hkindI hk hl2 hh2 hfit (by show U.heap.size < _; omega) q2 (fun acts2 => ?_)
    simp only [wp_bind', W.writeLoc, wp_pure']
    refine ⟨mw_out cA n.toNatClampNeg T.heap.size x, hcell, (fun h => by cases h), by rw [show (mw_out cA n.toNatClampNeg T.heap.size x).slots.size = n.toNatClampNeg from arrV_size _ _ _]; exact hlt, ?_, hnext _ _ _ ⟨x + 1, (U.pushCell { cls := cI, slots := Array.replicate k.toNatClampNeg (defaultValue ty) }).setCell T.heap.size (mw_out cA n.toNatClampNeg T.heap.size (x + 1)), hlt, hrest, ?_, hvm, XN, mw_H_next hH⟩⟩
    · show U.fitsSlot cA .none x (.ref U.heap.size) = true
      simp only [State.fitsSlot, State.slotType?, hvm, hkA, Option.bind_eq_bind, Option.bind_some, hkindA]
      rfl
    · show ((U.pushCell _).setCell T.heap.size ((mw_out cA n.toNatClampNeg T.heap.size x).setSlot x (.ref U.heap.size))).setTop g = _
      rw [h1, mw_out_next]
  · rintro u d' acts' ⟨i, U, hi, hl, rfl, hvm, XU, hH⟩
    have hz := congrArg List.length hl
    rw [List.length_range', List.length_nil] at hz
    obtain rfl : i = n.toNatClampNeg := by omega
    simp only [wp_pure']
    exact hq U d' acts' XU hH
/-- multianewarray of two dimensions -/
theorem mw_multi {H : Heap} {Q : State → Prop} {cc : ByteArray} (hexec : p.tables.exec = Jvm.exec) (hb : c.code = cc) {own : String} {index : Nat} {ty : FieldType} {cy : ClassId} (hown : s.vm.findClass own = some m.cls) (hclink : (Cond.classLink own index ("[" ++ (FieldType.array ty).toString)).before args s = true) (hover : (Cond.arrayOver (.array ty)).before args s = true) (harr : (Cond.arrayClass ty).before args s = true) (hcy : s.vm.findClass (FieldType.array ty).toString = some cy)
    {g : JFrame} (hg : g.method = m) {n k : Int32} {rest : List Value} (hstack : g.stack = .int k :: .int n :: rest) (hn : ¬ n < 0) (hk : ¬ k < 0) (hb1 : n.toNatClampNeg * 4 ≤ 536870912) (hb2 : k.toNatClampNeg * componentBytes ty ≤ 536870912) (hb3 : k.toNatClampNeg ≤ 536870912) (hfit : fits ty (defaultValue ty) = true)
    (hcells : cells + (1 + n.toNatClampNeg) ≤ R.cells) (hslots : slots + (n.toNatClampNeg + n.toNatClampNeg * k.toNatClampNeg) ≤ R.slots) (hdg : decode cc g.pc = .ok (.multianewarray index 2, 4))
    (kk : ∀ (cA : ClassId) (kA : Class) (comp : ClassId) (H1 : Heap), s.vm.findClass ("[" ++ (FieldType.array ty).toString) = some cA → s.vm.classes[cA]? = some kA → kA.kind = .array comp (.array ty) → mw_H H cA n.toNatClampNeg { cls := cy, slots := Array.replicate k.toNatClampNeg (defaultValue ty) } n.toNatClampNeg H1 →
      W p l e R s m args below meth c H1 locs (cells + 1 + n.toNatClampNeg) (slots + n.toNatClampNeg + n.toNatClampNeg * k.toNatClampNeg) Q { g with pc := g.pc + 4, stack := .ref H.size :: rest }) : W p l e R s m args below meth c H locs cells slots Q g := by
  intro T hT X
  subst hT; subst hb; subst hg
  have hpl : e.platform.magicAccessors = ({} : Platform).magicAccessors := by rw [X.admits.platform]
  obtain ⟨comp, cA, kA, hcomp, -, hkA, hkindA, hnameA⟩ := arrayOverA_spec hover
  obtain rfl : comp = cy := Option.some.inj (hcomp.symm.trans hcy)
  obtain ⟨cI, kI, compI, fI, hkI, hkindI⟩ := Cond.arrayClass_spec harr
  have hcI : some cI = some comp := fI.symm.trans hcomp
  obtain rfl : cI = comp := Option.some.inj hcI
  obtain ⟨cr, hfcr, hcl⟩ := Cond.classLink_spec hown hclink e.platform hpl
  obtain rfl : cA = cr := Option.some.inj (hnameA.symm.trans hfcr)
  obtain ⟨hg₁, hwarm₁, hready₁⟩ := State.classEntry (e := e) X.warmed hcl
  generalize T.vm.noted g.method.cls index (.cls cA) = vm₁ at hg₁ hwarm₁ hready₁
  have hal : s.vm.Alike vm₁ := hwarm₁.alike
  obtain ⟨kA₁, hkA₁, heA⟩ := hal.2.2 _ _ hkA
  obtain ⟨kI₁, hkI₁, heI⟩ := hal.2.2 _ _ hkI
  have hkindA₁ : kA₁.kind = .array cI (.array ty) := by rw [heA]; exact hkindA
  have hkindI₁ : kI₁.kind = .array compI ty := by rw [heI]; exact hkindI
  have X₁ := X.noted hwarm₁
  refine mw_one (P := fun u => ∃ U : State, u = U.setTop { g with stack := .ref T.heap.size :: rest } ∧ Stand p l e R s g.method args below meth c U locs (cells + 1 + n.toNatClampNeg) (slots + n.toNatClampNeg + n.toNatClampNeg * k.toNatClampNeg) ∧ mw_H T.heap cA n.toNatClampNeg { cls := cI, slots := Array.replicate k.toNatClampNeg (defaultValue ty) } n.toNatClampNeg U.heap) X.here hdg ?_ ?_
  · rw [hexec]
    show wp (multianewarray.sem index 2) _ _ e false [] (T.setTop g)
    unfold multianewarray.sem
    simp only [wp_bind']
    refine (W.resolveClassAt_transfer (s := T.setTop g) (State.method?_setTop g X.here.top) hg₁ hready₁).mpr ?_
    refine (W.resolveClassAt_ready (s := (T.setTop g).setVm vm₁) (m := g.method) (State.method?_setTop g X.here.top) hready₁).mpr ?_
    simp only [wp_bind']
    refine (popN_top (s := T.setVm vm₁) (f := g) (args := [.int n, .int k]) (rest := rest) X₁.here.top hstack).mpr ?_
    simp only [List.mapM_cons, List.mapM_nil, wp_bind', wp_pure']
    refine mw_make X₁ hkA₁ hkindA₁ hkI₁ hkindI₁ hn hk hb1 hb2 hb3 hfit hcells hslots (fun U d' acts' XU hH => ?_)
    simp only [wp_bind', W.mark, W.pushRef, State.topJava?_setTop' _ XU.here.top, Option.some.injEq, exists_eq_left', State.setTop_setTop]
    exact ⟨U, rfl, XU, hH⟩
  · rintro u ⟨U, rfl, XU, hH⟩
    obtain ⟨t, a1, b1⟩ := kk cA kA cI U.heap hnameA hkA hkindA hH U rfl XU
    refine ⟨t, fun acts => ?_, b1⟩
    rw [afterInstr_ok]
    exact a1
end MW
